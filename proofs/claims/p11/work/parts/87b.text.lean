def EX14_isBlankK : List (Nat × Nat) := []
def EX14_behindGapsK : List (Nat × Nat) := []
def EX14_sentenceEndK : List (Nat × Nat) := []
set_option maxHeartbeats 4000000 in
set_option maxRecDepth 20000 in
theorem uX14_isBlankK (l : Launch) (dC : Nat → ClassId) (dI : Nat → Nat → Nat) (ca : Nat → ClassId) (base : Nat) (B : jF) (hB : jBok B) (hAp : jAp (dC, dI)) (G0 : jT) (H0 : Heap) (a0 : Int32) : Met l yX14_isBlank (jw yX14_isBlank cX14_isBlank 1 (some .boolean)) ({ frames := 0, cells := 0, slots := 0, locals := 0 }) (va_Pc [.int a0] (fun U => U.heap = H0 ∧ jX B base G0 [] H0 ∧ jG dC dI ca base U ∧ jP (dC, dI) G0 H0 [] ∧ True)) (va_Qi (S := Unit) (fun r u => (r = 0 ∨ r = 1) ∧ (r.toInt = jBlk a0.toInt)) (fun u t => jRt (dC, dI) B base G0 EX14_isBlankK H0 [] t.heap) (jA base)) 0 0 (jA base) := by
  refine Met.ofW (cc := cX14_isBlank) (maxL := 1) (ret := (some .boolean)) (by decide) rfl ?_
  intro p e s m args below meth c s₁ Bd hml hv
  obtain ⟨rfl, hH0, hX, hG, hP0, hp0⟩ := hv
  have hK := hG.1
  have hx := Bd.exec
  have hb := Bd.bytes
  have hr := Bd.returns
  have hts := atoms_spec (ws := (jw yX14_isBlank cX14_isBlank 1 (some .boolean))) Bd.pre
  have htw : ∀ w ∈ jWl, w.before _ s = true := fun w h => hts w (List.mem_cons_of_mem _ h)
  have hown : s.vm.findClass RX14 = some m.cls := findClass_of_methodNamed Bd.named
  have hlocks := Bd.notSynchronized
  obtain ⟨Q, hQ⟩ : ∃ Q, Q = MQ below (va_Qi (S := Unit) (fun r u => (r = 0 ∨ r = 1) ∧ (r.toInt = jBlk a0.toInt)) (fun u t => jRt (dC, dI) B base G0 EX14_isBlankK H0 [] t.heap) (jA base)) ([.int a0] : List Value).toArray s 0 0 (jA base) := ⟨_, rfl⟩
  rw [← hQ]
  have hl := lv_entry ([.int a0]) (n := 1) (Nat.le_of_ble_eq_true rfl)
  rw [lg_entry_eq]
  generalize (lg_sl ([.int a0]) ++ List.replicate (1 - (lg_sl ([.int a0])).length) Slot.unset).toArray = ls at hl ⊢
  have hl : lv_has ls 1 [(0, .int a0)] := hl
  generalize hR : (headSpec (jw yX14_isBlank cX14_isBlank 1 (some .boolean)) ({ frames := 0, cells := 0, slots := 0, locals := 0 })).room = R
  subst hH0
  have hh : jSt (dC, dI) B base G0 G0 EX14_isBlankK s.heap 0 0 [] [] [] s.heap [] := jSt.start hX hP0 jMc.nil jIs.nil
  clear hX hP0
  have hk0 : (0 : Int32).toInt = 0 := by decide
  have hk1 : (1 : Int32).toInt = 1 := by decide
  have hk9 : (9 : Int32).toInt = 9 := by decide
  have hk10 : (10 : Int32).toInt = 10 := by decide
  have hk13 : (13 : Int32).toInt = 13 := by decide
  have hk32 : (32 : Int32).toInt = 32 := by decide
  have hrg_a0 := jb_rng a0
  refine lv_iload_n hx hb dX14_isBlank_0 rfl (lv_at hl 0 rfl) ?_
  refine lv_bipush (v := 32) hx hb dX14_isBlank_1 (by decide) ?_
  refine lv_icmp_eq (tgt := 24) hx hb dX14_isBlank_3 (by decide) (fun c_1 => ?_) (fun c_1 => ?_)
  · skip
    have c_1' : a0.toInt = 32 := jb_eq (rfl) ((by decide)) c_1
    refine lv_iconst (v := 1) hx hb dX14_isBlank_24 (by decide) ?_
    refine lv_goto (tgt := 29) hx hb dX14_isBlank_25 (by decide) ?_
    rw [hQ]
    exact W.zret (v := 1) hx hb hr (jb_nz (Or.inr rfl)) (fun t ht hW => ⟨⟨1, (), rfl, ⟨(Or.inr rfl), by unfold jBlk; first | (rw [if_pos (by omega)]; exact hk1) | (rw [if_neg (by omega)]; exact hk0)⟩, hh.rt (M1 := []) [] rfl ht⟩, by rw [ht]; try exact hh.1.1, fun q h9 hq => by rw [ht]; try exact hh.1.2.1 q h9 hq⟩) hh.1.2.2 dX14_isBlank_29
  · skip
    have c_1' : a0.toInt ≠ 32 := jb_eq_n (rfl) ((by decide)) c_1
    refine lv_iload_n hx hb dX14_isBlank_6 rfl (lv_at hl 0 rfl) ?_
    refine lv_bipush (v := 9) hx hb dX14_isBlank_7 (by decide) ?_
    refine lv_icmp_eq (tgt := 24) hx hb dX14_isBlank_9 (by decide) (fun c_2 => ?_) (fun c_2 => ?_)
    · skip
      have c_2' : a0.toInt = 9 := jb_eq (rfl) ((by decide)) c_2
      refine lv_iconst (v := 1) hx hb dX14_isBlank_24 (by decide) ?_
      refine lv_goto (tgt := 29) hx hb dX14_isBlank_25 (by decide) ?_
      rw [hQ]
      exact W.zret (v := 1) hx hb hr (jb_nz (Or.inr rfl)) (fun t ht hW => ⟨⟨1, (), rfl, ⟨(Or.inr rfl), by unfold jBlk; first | (rw [if_pos (by omega)]; exact hk1) | (rw [if_neg (by omega)]; exact hk0)⟩, hh.rt (M1 := []) [] rfl ht⟩, by rw [ht]; try exact hh.1.1, fun q h9 hq => by rw [ht]; try exact hh.1.2.1 q h9 hq⟩) hh.1.2.2 dX14_isBlank_29
    · skip
      have c_2' : a0.toInt ≠ 9 := jb_eq_n (rfl) ((by decide)) c_2
      refine lv_iload_n hx hb dX14_isBlank_12 rfl (lv_at hl 0 rfl) ?_
      refine lv_bipush (v := 10) hx hb dX14_isBlank_13 (by decide) ?_
      refine lv_icmp_eq (tgt := 24) hx hb dX14_isBlank_15 (by decide) (fun c_3 => ?_) (fun c_3 => ?_)
      · skip
        have c_3' : a0.toInt = 10 := jb_eq (rfl) ((by decide)) c_3
        refine lv_iconst (v := 1) hx hb dX14_isBlank_24 (by decide) ?_
        refine lv_goto (tgt := 29) hx hb dX14_isBlank_25 (by decide) ?_
        rw [hQ]
        exact W.zret (v := 1) hx hb hr (jb_nz (Or.inr rfl)) (fun t ht hW => ⟨⟨1, (), rfl, ⟨(Or.inr rfl), by unfold jBlk; first | (rw [if_pos (by omega)]; exact hk1) | (rw [if_neg (by omega)]; exact hk0)⟩, hh.rt (M1 := []) [] rfl ht⟩, by rw [ht]; try exact hh.1.1, fun q h9 hq => by rw [ht]; try exact hh.1.2.1 q h9 hq⟩) hh.1.2.2 dX14_isBlank_29
      · skip
        have c_3' : a0.toInt ≠ 10 := jb_eq_n (rfl) ((by decide)) c_3
        refine lv_iload_n hx hb dX14_isBlank_18 rfl (lv_at hl 0 rfl) ?_
        refine lv_bipush (v := 13) hx hb dX14_isBlank_19 (by decide) ?_
        refine lv_icmp_ne (tgt := 28) hx hb dX14_isBlank_21 (by decide) (fun c_4 => ?_) (fun c_4 => ?_)
        · skip
          have c_4' : a0.toInt ≠ 13 := jb_ne (rfl) ((by decide)) c_4
          refine lv_iconst (v := 0) hx hb dX14_isBlank_28 (by decide) ?_
          rw [hQ]
          exact W.zret (v := 0) hx hb hr (jb_nz (Or.inl rfl)) (fun t ht hW => ⟨⟨0, (), rfl, ⟨(Or.inl rfl), by unfold jBlk; first | (rw [if_pos (by omega)]; exact hk1) | (rw [if_neg (by omega)]; exact hk0)⟩, hh.rt (M1 := []) [] rfl ht⟩, by rw [ht]; try exact hh.1.1, fun q h9 hq => by rw [ht]; try exact hh.1.2.1 q h9 hq⟩) hh.1.2.2 dX14_isBlank_29
        · skip
          have c_4' : a0.toInt = 13 := jb_ne_n (rfl) ((by decide)) c_4
          refine lv_iconst (v := 1) hx hb dX14_isBlank_24 (by decide) ?_
          refine lv_goto (tgt := 29) hx hb dX14_isBlank_25 (by decide) ?_
          rw [hQ]
          exact W.zret (v := 1) hx hb hr (jb_nz (Or.inr rfl)) (fun t ht hW => ⟨⟨1, (), rfl, ⟨(Or.inr rfl), by unfold jBlk; first | (rw [if_pos (by omega)]; exact hk1) | (rw [if_neg (by omega)]; exact hk0)⟩, hh.rt (M1 := []) [] rfl ht⟩, by rw [ht]; try exact hh.1.1, fun q h9 hq => by rw [ht]; try exact hh.1.2.1 q h9 hq⟩) hh.1.2.2 dX14_isBlank_29
set_option maxHeartbeats 4000000 in
set_option maxRecDepth 20000 in
theorem uX14_behindGapsK (l : Launch) (dC : Nat → ClassId) (dI : Nat → Nat → Nat) (ca : Nat → ClassId) (base : Nat) (B : jF) (hB : jBok B) (hAp : jAp (dC, dI)) (hB101 : ∀ n G a H, B 101 n G a H ↔ jAr (dC, dI) (ca 1) (fun j z => True) n a H) (G0 : jT) (H0 : Heap) (r0 : Nat) (a1 : Int32) (a2 : Int32) (n0 : Nat) (f0 : Nat → Int32) : Met l yX14_behindGaps (jw yX14_behindGaps cX14_behindGaps 4 (some .int)) ({ frames := 2, cells := 0, slots := 0, locals := 46 }) (va_Pc [.ref r0, .int a1, .int a2] (fun U => U.heap = H0 ∧ jX B base G0 [] H0 ∧ jG dC dI ca base U ∧ G0 r0 = some (101, n0) ∧ jP (dC, dI) G0 H0 [] ∧ jMc (dC, dI) G0 H0 [(r0, 101, n0, ca 1, f0)] ∧ 0 ≤ a1.toInt ∧ a1.toInt ≤ a2.toInt ∧ a2.toInt ≤ n0 ∧ n0 ≤ 200000)) (va_Qi (S := Unit) (fun r u => (r.toInt = jGap f0 a2.toInt a1.toInt ∧ a1.toInt ≤ r.toInt ∧ r.toInt ≤ a2.toInt)) (fun u t => jRt (dC, dI) B base G0 EX14_behindGapsK H0 [] t.heap) (jA base)) 0 0 (jA base) := by
  refine Met.ofW (cc := cX14_behindGaps) (maxL := 4) (ret := (some .int)) (by decide) rfl ?_
  intro p e s m args below meth c s₁ Bd hml hv
  obtain ⟨rfl, hH0, hX, hG, hg_r0, hP0, hM0, hp0, hp1, hp2, hp3⟩ := hv
  have hK := hG.1
  have hx := Bd.exec
  have hb := Bd.bytes
  have hr := Bd.returns
  have hts := atoms_spec (ws := (jw yX14_behindGaps cX14_behindGaps 4 (some .int))) Bd.pre
  have htw : ∀ w ∈ jWl, w.before _ s = true := fun w h => hts w (List.mem_cons_of_mem _ h)
  have hown : s.vm.findClass RX14 = some m.cls := findClass_of_methodNamed Bd.named
  have hlocks := Bd.notSynchronized
  obtain ⟨Q, hQ⟩ : ∃ Q, Q = MQ below (va_Qi (S := Unit) (fun r u => (r.toInt = jGap f0 a2.toInt a1.toInt ∧ a1.toInt ≤ r.toInt ∧ r.toInt ≤ a2.toInt)) (fun u t => jRt (dC, dI) B base G0 EX14_behindGapsK H0 [] t.heap) (jA base)) ([.ref r0, .int a1, .int a2] : List Value).toArray s 0 0 (jA base) := ⟨_, rfl⟩
  rw [← hQ]
  have hl := lv_entry ([.ref r0, .int a1, .int a2]) (n := 4) (Nat.le_of_ble_eq_true rfl)
  rw [lg_entry_eq]
  generalize (lg_sl ([.ref r0, .int a1, .int a2]) ++ List.replicate (4 - (lg_sl ([.ref r0, .int a1, .int a2])).length) Slot.unset).toArray = ls at hl ⊢
  have hl : lv_has ls 4 [(0, .ref r0), (1, .int a1), (2, .int a2)] := hl
  generalize hR : (headSpec (jw yX14_behindGaps cX14_behindGaps 4 (some .int)) ({ frames := 2, cells := 0, slots := 0, locals := 46 })).room = R
  subst hH0
  have hh : jSt (dC, dI) B base G0 G0 EX14_behindGapsK s.heap 0 0 [] [(r0, 101, n0, ca 1, f0)] [] s.heap [] := jSt.start hX hP0 hM0 jIs.nil
  clear hX hP0
  have hk0 : (0 : Int32).toInt = 0 := by decide
  have hk1 : (1 : Int32).toInt = 1 := by decide
  have hrg_a1 := jb_rng a1
  have hrg_a2 := jb_rng a2
  refine lv_iload_n hx hb dX14_behindGaps_0 rfl (lv_at hl 1 rfl) ?_
  refine lv_istore_n (lv' := [(3, .int a1), (0, .ref r0), (1, .int a1), (2, .int a2)]) hx hb dX14_behindGaps_1 rfl hl (by decide) rfl (fun ls hl => ?_)
  have L2 : ∀ (N : Nat) (v3_1 : Int32) (kf : Nat) (H_1 : Heap) (locs_1 : List Loc), jSt (dC, dI) B base G0 G0 EX14_behindGapsK s.heap 0 0 [] [(r0, 101, n0, ca 1, f0)] [] H_1 locs_1 → (a1.toInt ≤ v3_1.toInt ∧ v3_1.toInt ≤ a2.toInt ∧ a2.toInt - v3_1.toInt < kf ∧ jGa f0 a2.toInt kf v3_1.toInt = jGap f0 a2.toInt a1.toInt) → (a2.toInt - v3_1.toInt : Int) < N → ∀ ls : Array Slot, lv_has ls 4 [(0, .ref r0), (1, .int a1), (2, .int a2), (3, .int v3_1)] → W p l e R s m ([.ref r0, .int a1, .int a2] : List Value).toArray below meth c H_1 locs_1 0 0 Q (F0 m 2 ls []) := by
    intro N
    induction N with
    | zero => intro v3_1 kf H_1 locs_1 hh_1  hi_1 hm; exact absurd hm (by omega)
    | succ N L2 =>
      intro v3_1 kf H_1 locs_1 hh_1  hi_1 hm_1 ls hl
      obtain ⟨hi_1_0, hi_1_1, hi_1_2, hi_1_3⟩ := hi_1
      refine lv_iload_n hx hb dX14_behindGaps_2 rfl (lv_at hl 3 rfl) ?_
      refine lv_iload_n hx hb dX14_behindGaps_3 rfl (lv_at hl 2 rfl) ?_
      refine lv_icmp_ge (tgt := 52) hx hb dX14_behindGaps_4 (by decide) (fun c_2 => ?_) (fun c_2 => ?_)
      · skip
        have c_2' : v3_1.toInt ≥ a2.toInt := jb_ge (rfl) (rfl) c_2
        refine lv_iload_n hx hb dX14_behindGaps_52 rfl (lv_at hl 2 rfl) ?_
        rw [hQ]
        exact W.iret (v := a2) hx hb hr (fun t ht hW => ⟨⟨a2, (), rfl, by refine ⟨?_, by omega, by omega⟩; exact (jGa_n (by omega) (by omega) rfl).trans hi_1_3, hh_1.rt (M1 := []) [] rfl ht⟩, by rw [ht]; try exact hh_1.1.1, fun q h9 hq => by rw [ht]; try exact hh_1.1.2.1 q h9 hq⟩) hh_1.1.2.2 dX14_behindGaps_53
      · skip
        have c_2' : v3_1.toInt < a2.toInt := jb_ge_n (rfl) (rfl) c_2
        refine lv_aload_n hx hb dX14_behindGaps_7 rfl (lv_at hl 0 rfl) ?_
        refine lv_iload_n hx hb dX14_behindGaps_8 rfl (lv_at hl 3 rfl) ?_
        refine j7_ialdM hx hb hK hh_1 hB101 1 rfl (by decide) hg_r0 (x := v3_1.toInt) (rfl) (by omega) (j := 0) rfl dX14_behindGaps_9 (fun z_3 ez_3 (hz_3 : True) => ?_)
        have hqz_3 : z_3.toInt = jSo f0 (v3_1.toInt) := by unfold jSo; rw [ez_3]
        refine va_calli (A0 := jA base) (H0 := s.heap) (va_runS (As := [.int z_3]) (rest := []) ⟨hx, hb, hml, hown, hts⟩ (uX14_isBlankK l dC dI ca base B hB hAp G0 H_1 z_3) (va_cwS 1 hts (jgS (jWr_57 _ (List.mem_of_getElem? (i := 16) rfl)) (jWr_57 _ (List.mem_of_getElem? (i := 17) rfl)) (jWr_1 _ (List.mem_of_getElem? (i := 5) rfl)) (jWr_57 _ (List.mem_of_getElem? (i := 18) rfl))) rfl rfl rfl (by decide +kernel) ⟨by rw [← hR]; exact Nat.le_of_ble_eq_true rfl, by rw [← hR]; exact Nat.le_of_ble_eq_true rfl⟩) ⟨fun a U g mk q => by obtain ⟨q0, q1, q2, qK, q10, q11⟩ := q; exact ⟨q0, q1, q2, jG.calling g mk a qK, q10, q11⟩, fun U hU hW => ⟨rfl, hU, hh_1.2.1, hG.step hW hU hh_1.1, jP.nil, trivial⟩⟩ rfl rfl hl.1 rfl (lv_room (Nat.le_of_ble_eq_true rfl)) dX14_behindGaps_10 ⟨Nat.zero_le _, Nat.zero_le _⟩) hh_1.1 (fun q _ h => h) (fun q h => h) (fun r_5 u_4 t_4 H_4 locs_4 ht_4 hvm_4 hr_5 hb_4 hz_4 hk_4 hS_4 => ?_)
        rw [ht_4] at hb_4
        obtain ⟨hb_41, hb_42, hb_43, hb_44, hb_45⟩ := hb_4
        have hh_4 : jSt (dC, dI) B base G0 G0 EX14_behindGapsK s.heap 0 0 [] [(r0, 101, n0, ca 1, f0)] [] H_4 locs_4 := ((hh_1.call hb_41 hb_42 hb_43 hb_44 hS_4 rfl (L1 := []) [] rfl rfl (M1 := [(r0, 101, n0, ca 1, f0)]) [0] rfl rfl (I1 := []) [] rfl rfl).more hb_45)
        clear hh_1 ht_4 hvm_4 hz_4 hk_4 hS_4 hb_41 hb_42 hb_43 hb_44 hb_45
        obtain ⟨hr_5b, hr_5p⟩ := hr_5
        have hr_5' := jb_01 hr_5b
        refine lv_if_eq (tgt := 22) hx hb dX14_behindGaps_13 (by decide) (fun c_6 => ?_) (fun c_6 => ?_)
        · skip
          have c_6' : r_5.toInt = 0 := jb_eq (rfl) ((by decide)) c_6
          refine lv_aload_n hx hb dX14_behindGaps_22 rfl (lv_at hl 0 rfl) ?_
          refine lv_iload_n hx hb dX14_behindGaps_23 rfl (lv_at hl 3 rfl) ?_
          refine lv_iload_n hx hb dX14_behindGaps_24 rfl (lv_at hl 2 rfl) ?_
          refine va_calli (A0 := jA base) (H0 := s.heap) (va_runS (As := [.ref r0, .int v3_1, .int a2]) (rest := []) ⟨hx, hb, hml, hown, hts⟩ (uX14_opens l dC dI ca base B hB hAp hB101 G0 H_4 r0 v3_1 a2 n0 f0) (va_cwS 3 hts (jgS (jWr_57 _ (List.mem_of_getElem? (i := 19) rfl)) (jWr_57 _ (List.mem_of_getElem? (i := 20) rfl)) (jWr_1 _ (List.mem_of_getElem? (i := 5) rfl)) (jWr_57 _ (List.mem_of_getElem? (i := 21) rfl))) rfl rfl rfl (by decide +kernel) ⟨by rw [← hR]; exact Nat.le_of_ble_eq_true rfl, by rw [← hR]; exact Nat.le_of_ble_eq_true rfl⟩) ⟨fun a U g mk q => by obtain ⟨q0, q1, q2, qK, q10, q11, q12, q13⟩ := q; exact ⟨q0, q1, q2, jG.calling g mk a qK, q10, q11, q12, q13⟩, fun U hU hW => ⟨rfl, hU, hh_4.2.1, hG.step hW hU hh_4.1, hg_r0, jP.nil, (hh_4.2.2.2.2.2.2.2.1.sub (L1 := [(r0, 101, n0, ca 1, f0)]) [0] rfl), by first | omega | (refine ⟨?_, ?_, ?_, ?_, ?_⟩ <;> (first | omega | rfl | assumption | decide | exact Or.inl rfl | exact Or.inr rfl | (simp only; omega)))⟩⟩ rfl rfl hl.1 rfl (lv_room (Nat.le_of_ble_eq_true rfl)) dX14_behindGaps_25 ⟨Nat.zero_le _, Nat.zero_le _⟩) hh_4.1 (fun q _ h => h) (fun q h => h) (fun r_8 u_7 t_7 H_7 locs_7 ht_7 hvm_7 hr_8 hb_7 hz_7 hk_7 hS_7 => ?_)
          rw [ht_7] at hb_7
          obtain ⟨hb_71, hb_72, hb_73, hb_74, hb_75⟩ := hb_7
          have hh_7 : jSt (dC, dI) B base G0 G0 EX14_behindGapsK s.heap 0 0 [] [(r0, 101, n0, ca 1, f0)] [] H_7 locs_7 := ((hh_4.call hb_71 hb_72 hb_73 hb_74 hS_7 rfl (L1 := []) [] rfl rfl (M1 := [(r0, 101, n0, ca 1, f0)]) [0] rfl rfl (I1 := []) [] rfl rfl).more hb_75)
          clear hh_4 ht_7 hvm_7 hz_7 hk_7 hS_7 hb_71 hb_72 hb_73 hb_74 hb_75
          obtain ⟨hr_8b, hr_8p⟩ := hr_8
          obtain ⟨hr_8p_0, hr_8p_1⟩ := hr_8p
          have hr_8' := jb_01 hr_8b
          refine lv_if_eq (tgt := 50) hx hb dX14_behindGaps_28 (by decide) (fun c_9 => ?_) (fun c_9 => ?_)
          · skip
            have c_9' : r_8.toInt = 0 := jb_eq (rfl) ((by decide)) c_9
            refine lv_iload_n hx hb dX14_behindGaps_50 rfl (lv_at hl 3 rfl) ?_
            rw [hQ]
            exact W.iret (v := v3_1) hx hb hr (fun t ht hW => ⟨⟨v3_1, (), rfl, by refine ⟨?_, by omega, by omega⟩; exact (jGa_x (by omega) (by omega) (by rw [← hqz_3, ← hr_5p]; omega) (by first | exact Or.inl (by omega) | exact Or.inr (by have h9 := (zz_none); unfold jBcc; omega)) rfl).trans hi_1_3, hh_7.rt (M1 := []) [] rfl ht⟩, by rw [ht]; try exact hh_7.1.1, fun q h9 hq => by rw [ht]; try exact hh_7.1.2.1 q h9 hq⟩) hh_7.1.2.2 dX14_behindGaps_51
          · skip
            have c_9' : r_8.toInt ≠ 0 := jb_eq_n (rfl) ((by decide)) c_9
            refine lv_aload_n hx hb dX14_behindGaps_31 rfl (lv_at hl 0 rfl) ?_
            refine lv_iload_n hx hb dX14_behindGaps_32 rfl (lv_at hl 3 rfl) ?_
            refine lv_iload_n hx hb dX14_behindGaps_33 rfl (lv_at hl 2 rfl) ?_
            refine va_calli (A0 := jA base) (H0 := s.heap) (va_runS (As := [.ref r0, .int v3_1, .int a2]) (rest := []) ⟨hx, hb, hml, hown, hts⟩ (uX14_behindComment l dC dI ca base B hB hAp hB101 G0 H_7 r0 v3_1 a2 n0 f0) (va_cwS 3 hts (jgS (jWr_57 _ (List.mem_of_getElem? (i := 22) rfl)) (jWr_57 _ (List.mem_of_getElem? (i := 23) rfl)) (jWr_1 _ (List.mem_of_getElem? (i := 5) rfl)) (jWr_58 _ (List.mem_of_getElem? (i := 0) rfl))) rfl rfl rfl (by decide +kernel) ⟨by rw [← hR]; exact Nat.le_of_ble_eq_true rfl, by rw [← hR]; exact Nat.le_of_ble_eq_true rfl⟩) ⟨fun a U g mk q => by obtain ⟨q0, q1, q2, qK, q10, q11, q12, q13⟩ := q; exact ⟨q0, q1, q2, jG.calling g mk a qK, q10, q11, q12, q13⟩, fun U hU hW => ⟨rfl, hU, hh_7.2.1, hG.step hW hU hh_7.1, hg_r0, jP.nil, (hh_7.2.2.2.2.2.2.2.1.sub (L1 := [(r0, 101, n0, ca 1, f0)]) [0] rfl), by first | omega | (refine ⟨?_, ?_, ?_, ?_⟩ <;> (first | omega | rfl | assumption | decide | exact Or.inl rfl | exact Or.inr rfl | (simp only; omega)))⟩⟩ rfl rfl hl.1 rfl (lv_room (Nat.le_of_ble_eq_true rfl)) dX14_behindGaps_34 ⟨Nat.zero_le _, Nat.zero_le _⟩) hh_7.1 (fun q _ h => h) (fun q h => h) (fun r_11 u_10 t_10 H_10 locs_10 ht_10 hvm_10 hr_11 hb_10 hz_10 hk_10 hS_10 => ?_)
            rw [ht_10] at hb_10
            obtain ⟨hb_101, hb_102, hb_103, hb_104, hb_105⟩ := hb_10
            have hh_10 : jSt (dC, dI) B base G0 G0 EX14_behindGapsK s.heap 0 0 [] [(r0, 101, n0, ca 1, f0)] [] H_10 locs_10 := ((hh_7.call hb_101 hb_102 hb_103 hb_104 hS_10 rfl (L1 := []) [] rfl rfl (M1 := [(r0, 101, n0, ca 1, f0)]) [0] rfl rfl (I1 := []) [] rfl rfl).more hb_105)
            clear hh_7 ht_10 hvm_10 hz_10 hk_10 hS_10 hb_101 hb_102 hb_103 hb_104 hb_105
            obtain ⟨hr_11_0, hr_11_1, hr_11_2, hr_11_3⟩ := hr_11
            refine lv_if_lt (tgt := 50) hx hb dX14_behindGaps_37 (by decide) (fun c_12 => ?_) (fun c_12 => ?_)
            · skip
              have c_12' : r_11.toInt < 0 := jb_lt (rfl) ((by decide)) c_12
              first | (have hr_11_3q := hr_11_3.resolve_left (by omega); clear hr_11_3) | (have hr_11_3q := hr_11_3.resolve_right (by omega); clear hr_11_3) | try clear hr_11_3
              refine lv_iload_n hx hb dX14_behindGaps_50 rfl (lv_at hl 3 rfl) ?_
              rw [hQ]
              exact W.iret (v := v3_1) hx hb hr (fun t ht hW => ⟨⟨v3_1, (), rfl, by refine ⟨?_, by omega, by omega⟩; exact (jGa_x (by omega) (by omega) (by rw [← hqz_3, ← hr_5p]; omega) (by first | exact Or.inl (by omega) | exact Or.inr (by have h9 := hr_11_0; unfold jBcc; omega)) rfl).trans hi_1_3, hh_10.rt (M1 := []) [] rfl ht⟩, by rw [ht]; try exact hh_10.1.1, fun q h9 hq => by rw [ht]; try exact hh_10.1.2.1 q h9 hq⟩) hh_10.1.2.2 dX14_behindGaps_51
            · skip
              have c_12' : r_11.toInt ≥ 0 := jb_lt_n (rfl) ((by decide)) c_12
              first | (have hr_11_3q := hr_11_3.resolve_left (by omega); clear hr_11_3) | (have hr_11_3q := hr_11_3.resolve_right (by omega); clear hr_11_3) | try clear hr_11_3
              refine lv_aload_n hx hb dX14_behindGaps_40 rfl (lv_at hl 0 rfl) ?_
              refine lv_iload_n hx hb dX14_behindGaps_41 rfl (lv_at hl 3 rfl) ?_
              refine lv_iload_n hx hb dX14_behindGaps_42 rfl (lv_at hl 2 rfl) ?_
              refine va_calli (A0 := jA base) (H0 := s.heap) (va_runS (As := [.ref r0, .int v3_1, .int a2]) (rest := []) ⟨hx, hb, hml, hown, hts⟩ (uX14_behindComment l dC dI ca base B hB hAp hB101 G0 H_10 r0 v3_1 a2 n0 f0) (va_cwS 3 hts (jgS (jWr_57 _ (List.mem_of_getElem? (i := 22) rfl)) (jWr_57 _ (List.mem_of_getElem? (i := 23) rfl)) (jWr_1 _ (List.mem_of_getElem? (i := 5) rfl)) (jWr_58 _ (List.mem_of_getElem? (i := 0) rfl))) rfl rfl rfl (by decide +kernel) ⟨by rw [← hR]; exact Nat.le_of_ble_eq_true rfl, by rw [← hR]; exact Nat.le_of_ble_eq_true rfl⟩) ⟨fun a U g mk q => by obtain ⟨q0, q1, q2, qK, q10, q11, q12, q13⟩ := q; exact ⟨q0, q1, q2, jG.calling g mk a qK, q10, q11, q12, q13⟩, fun U hU hW => ⟨rfl, hU, hh_10.2.1, hG.step hW hU hh_10.1, hg_r0, jP.nil, (hh_10.2.2.2.2.2.2.2.1.sub (L1 := [(r0, 101, n0, ca 1, f0)]) [0] rfl), by first | omega | (refine ⟨?_, ?_, ?_, ?_⟩ <;> (first | omega | rfl | assumption | decide | exact Or.inl rfl | exact Or.inr rfl | (simp only; omega)))⟩⟩ rfl rfl hl.1 rfl (lv_room (Nat.le_of_ble_eq_true rfl)) dX14_behindGaps_43 ⟨Nat.zero_le _, Nat.zero_le _⟩) hh_10.1 (fun q _ h => h) (fun q h => h) (fun r_14 u_13 t_13 H_13 locs_13 ht_13 hvm_13 hr_14 hb_13 hz_13 hk_13 hS_13 => ?_)
              rw [ht_13] at hb_13
              obtain ⟨hb_131, hb_132, hb_133, hb_134, hb_135⟩ := hb_13
              have hh_13 : jSt (dC, dI) B base G0 G0 EX14_behindGapsK s.heap 0 0 [] [(r0, 101, n0, ca 1, f0)] [] H_13 locs_13 := ((hh_10.call hb_131 hb_132 hb_133 hb_134 hS_13 rfl (L1 := []) [] rfl rfl (M1 := [(r0, 101, n0, ca 1, f0)]) [0] rfl rfl (I1 := []) [] rfl rfl).more hb_135)
              clear hh_10 ht_13 hvm_13 hz_13 hk_13 hS_13 hb_131 hb_132 hb_133 hb_134 hb_135
              obtain ⟨hr_14_0, hr_14_1, hr_14_2, hr_14_3⟩ := hr_14
              refine lv_istore_n (lv' := [(3, .int r_14), (0, .ref r0), (1, .int a1), (2, .int a2)]) hx hb dX14_behindGaps_46 rfl hl (by decide) rfl (fun ls hl => ?_)
              refine lv_goto (tgt := 2) hx hb dX14_behindGaps_47 (by decide) ?_
              exact L2 r_14 (kf - 1) _ _ hh_13 (by refine ⟨by omega, by omega, by omega, ?_⟩; first | exact (jGa_b (by omega) (by omega) (by rw [← hqz_3, ← hr_5p]; omega) (by omega)).trans hi_1_3 | exact (jGa_c (by omega) (by omega) (by rw [← hqz_3, ← hr_5p]; omega) (by omega) (by omega) hr_14_0).trans hi_1_3) (by omega) _ (lv_sub hl [1, 2, 3, 0] rfl)
        · skip
          have c_6' : r_5.toInt ≠ 0 := jb_eq_n (rfl) ((by decide)) c_6
          obtain ⟨z_15, ez_15⟩ : ∃ y : Int32, y = v3_1 + 1 := ⟨_, rfl⟩
          refine lv_iinc (v := z_15) (lv' := [(3, .int z_15), (0, .ref r0), (1, .int a1), (2, .int a2)]) hx hb dX14_behindGaps_16 hl (k := 3) rfl (by rw [ez_15]; rfl) (by decide) rfl (fun ls hl => ?_)
          have hz_15 : z_15.toInt = v3_1.toInt + 1 := by rw [ez_15]; exact jb_iadd2 (rfl) (by decide) (by omega)
          refine lv_goto (tgt := 2) hx hb dX14_behindGaps_19 (by decide) ?_
          exact L2 z_15 (kf - 1) _ _ hh_4 (by refine ⟨by omega, by omega, by omega, ?_⟩; first | exact (jGa_b (by omega) (by omega) (by rw [← hqz_3, ← hr_5p]; omega) (by omega)).trans hi_1_3 | exact (jGa_c (by omega) (by omega) (by rw [← hqz_3, ← hr_5p]; omega) (by omega) (by omega) (zz_none)).trans hi_1_3) (by omega) _ (lv_sub hl [1, 2, 3, 0] rfl)
  exact L2 (a2.toInt - (a1 : Int32).toInt : Int).toNat.succ a1 ((a2.toInt - a1.toInt).toNat + 1) _ _ hh (by exact ⟨by omega, by omega, by omega, rfl⟩) (by omega) _ (lv_sub hl [1, 2, 3, 0] rfl)
set_option maxHeartbeats 4000000 in
set_option maxRecDepth 20000 in
theorem uX14_sentenceEndK (l : Launch) (dC : Nat → ClassId) (dI : Nat → Nat → Nat) (ca : Nat → ClassId) (base : Nat) (B : jF) (hB : jBok B) (hAp : jAp (dC, dI)) (hB101 : ∀ n G a H, B 101 n G a H ↔ jAr (dC, dI) (ca 1) (fun j z => True) n a H) (G0 : jT) (H0 : Heap) (r0 : Nat) (a1 : Int32) (a2 : Int32) (n0 : Nat) (f0 : Nat → Int32) : Met l yX14_sentenceEnd (jw yX14_sentenceEnd cX14_sentenceEnd 4 (some .int)) ({ frames := 2, cells := 0, slots := 0, locals := 46 }) (va_Pc [.ref r0, .int a1, .int a2] (fun U => U.heap = H0 ∧ jX B base G0 [] H0 ∧ jG dC dI ca base U ∧ G0 r0 = some (101, n0) ∧ jP (dC, dI) G0 H0 [] ∧ jMc (dC, dI) G0 H0 [(r0, 101, n0, ca 1, f0)] ∧ 0 ≤ a1.toInt ∧ a1.toInt ≤ a2.toInt ∧ a2.toInt ≤ n0 ∧ n0 ≤ 200000)) (va_Qi (S := Unit) (fun r u => (r.toInt = jSen f0 a2.toInt a1.toInt ∧ -1 ≤ r.toInt ∧ r.toInt ≤ a2.toInt ∧ (r.toInt = -1 ∨ a1.toInt < r.toInt))) (fun u t => jRt (dC, dI) B base G0 EX14_sentenceEndK H0 [] t.heap) (jA base)) 0 0 (jA base) := by
  refine Met.ofW (cc := cX14_sentenceEnd) (maxL := 4) (ret := (some .int)) (by decide) rfl ?_
  intro p e s m args below meth c s₁ Bd hml hv
  obtain ⟨rfl, hH0, hX, hG, hg_r0, hP0, hM0, hp0, hp1, hp2, hp3⟩ := hv
  have hK := hG.1
  have hx := Bd.exec
  have hb := Bd.bytes
  have hr := Bd.returns
  have hts := atoms_spec (ws := (jw yX14_sentenceEnd cX14_sentenceEnd 4 (some .int))) Bd.pre
  have htw : ∀ w ∈ jWl, w.before _ s = true := fun w h => hts w (List.mem_cons_of_mem _ h)
  have hown : s.vm.findClass RX14 = some m.cls := findClass_of_methodNamed Bd.named
  have hlocks := Bd.notSynchronized
  obtain ⟨Q, hQ⟩ : ∃ Q, Q = MQ below (va_Qi (S := Unit) (fun r u => (r.toInt = jSen f0 a2.toInt a1.toInt ∧ -1 ≤ r.toInt ∧ r.toInt ≤ a2.toInt ∧ (r.toInt = -1 ∨ a1.toInt < r.toInt))) (fun u t => jRt (dC, dI) B base G0 EX14_sentenceEndK H0 [] t.heap) (jA base)) ([.ref r0, .int a1, .int a2] : List Value).toArray s 0 0 (jA base) := ⟨_, rfl⟩
  rw [← hQ]
  have hl := lv_entry ([.ref r0, .int a1, .int a2]) (n := 4) (Nat.le_of_ble_eq_true rfl)
  rw [lg_entry_eq]
  generalize (lg_sl ([.ref r0, .int a1, .int a2]) ++ List.replicate (4 - (lg_sl ([.ref r0, .int a1, .int a2])).length) Slot.unset).toArray = ls at hl ⊢
  have hl : lv_has ls 4 [(0, .ref r0), (1, .int a1), (2, .int a2)] := hl
  generalize hR : (headSpec (jw yX14_sentenceEnd cX14_sentenceEnd 4 (some .int)) ({ frames := 2, cells := 0, slots := 0, locals := 46 })).room = R
  subst hH0
  have hh : jSt (dC, dI) B base G0 G0 EX14_sentenceEndK s.heap 0 0 [] [(r0, 101, n0, ca 1, f0)] [] s.heap [] := jSt.start hX hP0 hM0 jIs.nil
  clear hX hP0
  have hkm1 : ((-1) : Int32).toInt = (-1) := by decide
  have hk0 : (0 : Int32).toInt = 0 := by decide
  have hk1 : (1 : Int32).toInt = 1 := by decide
  have hk46 : (46 : Int32).toInt = 46 := by decide
  have hrg_a1 := jb_rng a1
  have hrg_a2 := jb_rng a2
  refine lv_iload_n hx hb dX14_sentenceEnd_0 rfl (lv_at hl 1 rfl) ?_
  refine lv_istore_n (lv' := [(3, .int a1), (0, .ref r0), (1, .int a1), (2, .int a2)]) hx hb dX14_sentenceEnd_1 rfl hl (by decide) rfl (fun ls hl => ?_)
  have L2 : ∀ (N : Nat) (v3_1 : Int32) (kf : Nat) (H_1 : Heap) (locs_1 : List Loc), jSt (dC, dI) B base G0 G0 EX14_sentenceEndK s.heap 0 0 [] [(r0, 101, n0, ca 1, f0)] [] H_1 locs_1 → (a1.toInt ≤ v3_1.toInt ∧ v3_1.toInt ≤ a2.toInt ∧ a2.toInt - v3_1.toInt < kf ∧ jSx f0 a2.toInt kf v3_1.toInt = jSen f0 a2.toInt a1.toInt) → (a2.toInt - v3_1.toInt : Int) < N → ∀ ls : Array Slot, lv_has ls 4 [(0, .ref r0), (1, .int a1), (2, .int a2), (3, .int v3_1)] → W p l e R s m ([.ref r0, .int a1, .int a2] : List Value).toArray below meth c H_1 locs_1 0 0 Q (F0 m 2 ls []) := by
    intro N
    induction N with
    | zero => intro v3_1 kf H_1 locs_1 hh_1  hi_1 hm; exact absurd hm (by omega)
    | succ N L2 =>
      intro v3_1 kf H_1 locs_1 hh_1  hi_1 hm_1 ls hl
      obtain ⟨hi_1_0, hi_1_1, hi_1_2, hi_1_3⟩ := hi_1
      refine lv_iload_n hx hb dX14_sentenceEnd_2 rfl (lv_at hl 3 rfl) ?_
      refine lv_iload_n hx hb dX14_sentenceEnd_3 rfl (lv_at hl 2 rfl) ?_
      refine lv_icmp_ge (tgt := 76) hx hb dX14_sentenceEnd_4 (by decide) (fun c_2 => ?_) (fun c_2 => ?_)
      · skip
        have c_2' : v3_1.toInt ≥ a2.toInt := jb_ge (rfl) (rfl) c_2
        refine lv_iconst (v := (-1)) hx hb dX14_sentenceEnd_76 (by decide) ?_
        rw [hQ]
        exact W.iret (v := (-1)) hx hb hr (fun t ht hW => ⟨⟨(-1), (), rfl, by refine ⟨?_, by omega, by omega, by omega⟩; exact (jSx_o (by omega) (by omega) hkm1).trans hi_1_3, hh_1.rt (M1 := []) [] rfl ht⟩, by rw [ht]; try exact hh_1.1.1, fun q h9 hq => by rw [ht]; try exact hh_1.1.2.1 q h9 hq⟩) hh_1.1.2.2 dX14_sentenceEnd_77
      · skip
        have c_2' : v3_1.toInt < a2.toInt := jb_ge_n (rfl) (rfl) c_2
        refine lv_aload_n hx hb dX14_sentenceEnd_7 rfl (lv_at hl 0 rfl) ?_
        refine lv_iload_n hx hb dX14_sentenceEnd_8 rfl (lv_at hl 3 rfl) ?_
        refine lv_iload_n hx hb dX14_sentenceEnd_9 rfl (lv_at hl 2 rfl) ?_
        refine va_calli (A0 := jA base) (H0 := s.heap) (va_runS (As := [.ref r0, .int v3_1, .int a2]) (rest := []) ⟨hx, hb, hml, hown, hts⟩ (uX14_opens l dC dI ca base B hB hAp hB101 G0 H_1 r0 v3_1 a2 n0 f0) (va_cwS 3 hts (jgS (jWr_57 _ (List.mem_of_getElem? (i := 19) rfl)) (jWr_57 _ (List.mem_of_getElem? (i := 20) rfl)) (jWr_1 _ (List.mem_of_getElem? (i := 5) rfl)) (jWr_57 _ (List.mem_of_getElem? (i := 21) rfl))) rfl rfl rfl (by decide +kernel) ⟨by rw [← hR]; exact Nat.le_of_ble_eq_true rfl, by rw [← hR]; exact Nat.le_of_ble_eq_true rfl⟩) ⟨fun a U g mk q => by obtain ⟨q0, q1, q2, qK, q10, q11, q12, q13⟩ := q; exact ⟨q0, q1, q2, jG.calling g mk a qK, q10, q11, q12, q13⟩, fun U hU hW => ⟨rfl, hU, hh_1.2.1, hG.step hW hU hh_1.1, hg_r0, jP.nil, (hh_1.2.2.2.2.2.2.2.1.sub (L1 := [(r0, 101, n0, ca 1, f0)]) [0] rfl), by first | omega | (refine ⟨?_, ?_, ?_, ?_, ?_⟩ <;> (first | omega | rfl | assumption | decide | exact Or.inl rfl | exact Or.inr rfl | (simp only; omega)))⟩⟩ rfl rfl hl.1 rfl (lv_room (Nat.le_of_ble_eq_true rfl)) dX14_sentenceEnd_10 ⟨Nat.zero_le _, Nat.zero_le _⟩) hh_1.1 (fun q _ h => h) (fun q h => h) (fun r_4 u_3 t_3 H_3 locs_3 ht_3 hvm_3 hr_4 hb_3 hz_3 hk_3 hS_3 => ?_)
        rw [ht_3] at hb_3
        obtain ⟨hb_31, hb_32, hb_33, hb_34, hb_35⟩ := hb_3
        have hh_3 : jSt (dC, dI) B base G0 G0 EX14_sentenceEndK s.heap 0 0 [] [(r0, 101, n0, ca 1, f0)] [] H_3 locs_3 := ((hh_1.call hb_31 hb_32 hb_33 hb_34 hS_3 rfl (L1 := []) [] rfl rfl (M1 := [(r0, 101, n0, ca 1, f0)]) [0] rfl rfl (I1 := []) [] rfl rfl).more hb_35)
        clear hh_1 ht_3 hvm_3 hz_3 hk_3 hS_3 hb_31 hb_32 hb_33 hb_34 hb_35
        obtain ⟨hr_4b, hr_4p⟩ := hr_4
        obtain ⟨hr_4p_0, hr_4p_1⟩ := hr_4p
        have hr_4' := jb_01 hr_4b
        refine lv_if_eq (tgt := 29) hx hb dX14_sentenceEnd_13 (by decide) (fun c_5 => ?_) (fun c_5 => ?_)
        · skip
          have c_5' : r_4.toInt = 0 := jb_eq (rfl) ((by decide)) c_5
          refine lv_aload_n hx hb dX14_sentenceEnd_29 rfl (lv_at hl 0 rfl) ?_
          refine lv_iload_n hx hb dX14_sentenceEnd_30 rfl (lv_at hl 3 rfl) ?_
          refine j7_ialdM hx hb hK hh_3 hB101 1 rfl (by decide) hg_r0 (x := v3_1.toInt) (rfl) (by omega) (j := 0) rfl dX14_sentenceEnd_31 (fun z_6 ez_6 (hz_6 : True) => ?_)
          have hqz_6 : z_6.toInt = jSo f0 (v3_1.toInt) := by unfold jSo; rw [ez_6]
          refine lv_bipush (v := 46) hx hb dX14_sentenceEnd_32 (by decide) ?_
          refine lv_icmp_ne (tgt := 70) hx hb dX14_sentenceEnd_34 (by decide) (fun c_7 => ?_) (fun c_7 => ?_)
          · skip
            have c_7' : z_6.toInt ≠ 46 := jb_ne (rfl) ((by decide)) c_7
            obtain ⟨z_8, ez_8⟩ : ∃ y : Int32, y = v3_1 + 1 := ⟨_, rfl⟩
            refine lv_iinc (v := z_8) (lv' := [(3, .int z_8), (0, .ref r0), (1, .int a1), (2, .int a2)]) hx hb dX14_sentenceEnd_70 hl (k := 3) rfl (by rw [ez_8]; rfl) (by decide) rfl (fun ls hl => ?_)
            have hz_8 : z_8.toInt = v3_1.toInt + 1 := by rw [ez_8]; exact jb_iadd2 (rfl) (by decide) (by omega)
            refine lv_goto (tgt := 2) hx hb dX14_sentenceEnd_73 (by decide) ?_
            exact L2 z_8 (kf - 1) _ _ hh_3 (by refine ⟨by omega, by omega, by omega, ?_⟩; first | exact (jSx_c (by omega) (by omega) (by omega) (by omega) (zz_none)).trans hi_1_3 | exact (jSx_n (by omega) (by omega) (by omega) (jDt_0 (by first | exact Or.inl (by rw [← hqz_6]; omega) | exact Or.inr ⟨by omega, (by rw [← (zz_none), ← (zz_none)]; omega), by omega⟩)) (by omega)).trans hi_1_3) (by omega) _ (lv_sub hl [1, 2, 3, 0] rfl)
          · skip
            have c_7' : z_6.toInt = 46 := jb_ne_n (rfl) ((by decide)) c_7
            refine lv_iload_n hx hb dX14_sentenceEnd_37 rfl (lv_at hl 3 rfl) ?_
            refine lv_iconst (v := 1) hx hb dX14_sentenceEnd_38 (by decide) ?_
            refine lv_iadd hx hb dX14_sentenceEnd_39 ?_
            refine lv_topi (fun z_9 ez_9 => ?_)
            have hz_9 : z_9.toInt = v3_1.toInt + 1 := by rw [ez_9]; exact jb_iadd2 (rfl) ((by decide)) (by omega)
            refine lv_iload_n hx hb dX14_sentenceEnd_40 rfl (lv_at hl 2 rfl) ?_
            refine lv_icmp_eq (tgt := 66) hx hb dX14_sentenceEnd_41 (by decide) (fun c_10 => ?_) (fun c_10 => ?_)
            · skip
              have c_10' : z_9.toInt = a2.toInt := jb_eq (rfl) (rfl) c_10
              refine lv_iload_n hx hb dX14_sentenceEnd_66 rfl (lv_at hl 3 rfl) ?_
              refine lv_iconst (v := 1) hx hb dX14_sentenceEnd_67 (by decide) ?_
              refine lv_iadd hx hb dX14_sentenceEnd_68 ?_
              refine lv_topi (fun z_11 ez_11 => ?_)
              have hz_11 : z_11.toInt = v3_1.toInt + 1 := by rw [ez_11]; exact jb_iadd2 (rfl) ((by decide)) (by omega)
              rw [hQ]
              exact W.iret (v := z_11) hx hb hr (fun t ht hW => ⟨⟨z_11, (), rfl, by refine ⟨?_, by omega, by omega, by omega⟩; exact (jSx_d (by omega) (by omega) (by omega) (jDt_1 (by rw [← hqz_6]; omega) (by first | exact Or.inl (by omega) | exact Or.inr (Or.inl (by rw [← (zz_none), ← (zz_none)]; omega)) | exact Or.inr (Or.inr (by rw [ho60]; omega)))) (by omega)).trans hi_1_3, hh_3.rt (M1 := []) [] rfl ht⟩, by rw [ht]; try exact hh_3.1.1, fun q h9 hq => by rw [ht]; try exact hh_3.1.2.1 q h9 hq⟩) hh_3.1.2.2 dX14_sentenceEnd_69
            · skip
              have c_10' : z_9.toInt ≠ a2.toInt := jb_eq_n (rfl) (rfl) c_10
              refine lv_aload_n hx hb dX14_sentenceEnd_44 rfl (lv_at hl 0 rfl) ?_
              refine lv_iload_n hx hb dX14_sentenceEnd_45 rfl (lv_at hl 3 rfl) ?_
              refine lv_iconst (v := 1) hx hb dX14_sentenceEnd_46 (by decide) ?_
              refine lv_iadd hx hb dX14_sentenceEnd_47 ?_
              refine lv_topi (fun z_12 ez_12 => ?_)
              have hz_12 : z_12.toInt = v3_1.toInt + 1 := by rw [ez_12]; exact jb_iadd2 (rfl) ((by decide)) (by omega)
              refine j7_ialdM hx hb hK hh_3 hB101 1 rfl (by decide) hg_r0 (x := z_12.toInt) (rfl) (by omega) (j := 0) rfl dX14_sentenceEnd_48 (fun z_13 ez_13 (hz_13 : True) => ?_)
              have hqz_13 : z_13.toInt = jSo f0 ((v3_1.toInt + 1)) := by unfold jSo; rw [ez_13, show z_12.toInt = (v3_1.toInt + 1) by omega]
              refine va_calli (A0 := jA base) (H0 := s.heap) (va_runS (As := [.int z_13]) (rest := []) ⟨hx, hb, hml, hown, hts⟩ (uX14_isBlankK l dC dI ca base B hB hAp G0 H_3 z_13) (va_cwS 1 hts (jgS (jWr_57 _ (List.mem_of_getElem? (i := 16) rfl)) (jWr_57 _ (List.mem_of_getElem? (i := 17) rfl)) (jWr_1 _ (List.mem_of_getElem? (i := 5) rfl)) (jWr_57 _ (List.mem_of_getElem? (i := 18) rfl))) rfl rfl rfl (by decide +kernel) ⟨by rw [← hR]; exact Nat.le_of_ble_eq_true rfl, by rw [← hR]; exact Nat.le_of_ble_eq_true rfl⟩) ⟨fun a U g mk q => by obtain ⟨q0, q1, q2, qK, q10, q11⟩ := q; exact ⟨q0, q1, q2, jG.calling g mk a qK, q10, q11⟩, fun U hU hW => ⟨rfl, hU, hh_3.2.1, hG.step hW hU hh_3.1, jP.nil, trivial⟩⟩ rfl rfl hl.1 rfl (lv_room (Nat.le_of_ble_eq_true rfl)) dX14_sentenceEnd_49 ⟨Nat.zero_le _, Nat.zero_le _⟩) hh_3.1 (fun q _ h => h) (fun q h => h) (fun r_15 u_14 t_14 H_14 locs_14 ht_14 hvm_14 hr_15 hb_14 hz_14 hk_14 hS_14 => ?_)
              rw [ht_14] at hb_14
              obtain ⟨hb_141, hb_142, hb_143, hb_144, hb_145⟩ := hb_14
              have hh_14 : jSt (dC, dI) B base G0 G0 EX14_sentenceEndK s.heap 0 0 [] [(r0, 101, n0, ca 1, f0)] [] H_14 locs_14 := ((hh_3.call hb_141 hb_142 hb_143 hb_144 hS_14 rfl (L1 := []) [] rfl rfl (M1 := [(r0, 101, n0, ca 1, f0)]) [0] rfl rfl (I1 := []) [] rfl rfl).more hb_145)
              clear hh_3 ht_14 hvm_14 hz_14 hk_14 hS_14 hb_141 hb_142 hb_143 hb_144 hb_145
              obtain ⟨hr_15b, hr_15p⟩ := hr_15
              have hr_15' := jb_01 hr_15b
              refine lv_if_ne (tgt := 66) hx hb dX14_sentenceEnd_52 (by decide) (fun c_16 => ?_) (fun c_16 => ?_)
              · skip
                have c_16' : r_15.toInt ≠ 0 := jb_ne (rfl) ((by decide)) c_16
                refine lv_iload_n hx hb dX14_sentenceEnd_66 rfl (lv_at hl 3 rfl) ?_
                refine lv_iconst (v := 1) hx hb dX14_sentenceEnd_67 (by decide) ?_
                refine lv_iadd hx hb dX14_sentenceEnd_68 ?_
                refine lv_topi (fun z_17 ez_17 => ?_)
                have hz_17 : z_17.toInt = v3_1.toInt + 1 := by rw [ez_17]; exact jb_iadd2 (rfl) ((by decide)) (by omega)
                rw [hQ]
                exact W.iret (v := z_17) hx hb hr (fun t ht hW => ⟨⟨z_17, (), rfl, by refine ⟨?_, by omega, by omega, by omega⟩; exact (jSx_d (by omega) (by omega) (by omega) (jDt_1 (by rw [← hqz_6]; omega) (by first | exact Or.inl (by omega) | exact Or.inr (Or.inl (by rw [← hqz_13, ← hr_15p]; omega)) | exact Or.inr (Or.inr (by rw [ho60]; omega)))) (by omega)).trans hi_1_3, hh_14.rt (M1 := []) [] rfl ht⟩, by rw [ht]; try exact hh_14.1.1, fun q h9 hq => by rw [ht]; try exact hh_14.1.2.1 q h9 hq⟩) hh_14.1.2.2 dX14_sentenceEnd_69
              · skip
                have c_16' : r_15.toInt = 0 := jb_ne_n (rfl) ((by decide)) c_16
                refine lv_aload_n hx hb dX14_sentenceEnd_55 rfl (lv_at hl 0 rfl) ?_
                refine lv_iload_n hx hb dX14_sentenceEnd_56 rfl (lv_at hl 3 rfl) ?_
                refine lv_iconst (v := 1) hx hb dX14_sentenceEnd_57 (by decide) ?_
                refine lv_iadd hx hb dX14_sentenceEnd_58 ?_
                refine lv_topi (fun z_18 ez_18 => ?_)
                have hz_18 : z_18.toInt = v3_1.toInt + 1 := by rw [ez_18]; exact jb_iadd2 (rfl) ((by decide)) (by omega)
                refine lv_iload_n hx hb dX14_sentenceEnd_59 rfl (lv_at hl 2 rfl) ?_
                refine va_calli (A0 := jA base) (H0 := s.heap) (va_runS (As := [.ref r0, .int z_18, .int a2]) (rest := []) ⟨hx, hb, hml, hown, hts⟩ (uX14_opens l dC dI ca base B hB hAp hB101 G0 H_14 r0 z_18 a2 n0 f0) (va_cwS 3 hts (jgS (jWr_57 _ (List.mem_of_getElem? (i := 19) rfl)) (jWr_57 _ (List.mem_of_getElem? (i := 20) rfl)) (jWr_1 _ (List.mem_of_getElem? (i := 5) rfl)) (jWr_57 _ (List.mem_of_getElem? (i := 21) rfl))) rfl rfl rfl (by decide +kernel) ⟨by rw [← hR]; exact Nat.le_of_ble_eq_true rfl, by rw [← hR]; exact Nat.le_of_ble_eq_true rfl⟩) ⟨fun a U g mk q => by obtain ⟨q0, q1, q2, qK, q10, q11, q12, q13⟩ := q; exact ⟨q0, q1, q2, jG.calling g mk a qK, q10, q11, q12, q13⟩, fun U hU hW => ⟨rfl, hU, hh_14.2.1, hG.step hW hU hh_14.1, hg_r0, jP.nil, (hh_14.2.2.2.2.2.2.2.1.sub (L1 := [(r0, 101, n0, ca 1, f0)]) [0] rfl), by first | omega | (refine ⟨?_, ?_, ?_, ?_, ?_⟩ <;> (first | omega | rfl | assumption | decide | exact Or.inl rfl | exact Or.inr rfl | (simp only; omega)))⟩⟩ rfl rfl hl.1 rfl (lv_room (Nat.le_of_ble_eq_true rfl)) dX14_sentenceEnd_60 ⟨Nat.zero_le _, Nat.zero_le _⟩) hh_14.1 (fun q _ h => h) (fun q h => h) (fun r_20 u_19 t_19 H_19 locs_19 ht_19 hvm_19 hr_20 hb_19 hz_19 hk_19 hS_19 => ?_)
                rw [ht_19] at hb_19
                obtain ⟨hb_191, hb_192, hb_193, hb_194, hb_195⟩ := hb_19
                have hh_19 : jSt (dC, dI) B base G0 G0 EX14_sentenceEndK s.heap 0 0 [] [(r0, 101, n0, ca 1, f0)] [] H_19 locs_19 := ((hh_14.call hb_191 hb_192 hb_193 hb_194 hS_19 rfl (L1 := []) [] rfl rfl (M1 := [(r0, 101, n0, ca 1, f0)]) [0] rfl rfl (I1 := []) [] rfl rfl).more hb_195)
                clear hh_14 ht_19 hvm_19 hz_19 hk_19 hS_19 hb_191 hb_192 hb_193 hb_194 hb_195
                obtain ⟨hr_20b, hr_20p⟩ := hr_20
                obtain ⟨hr_20p_0, hr_20p_1⟩ := hr_20p
                have ho60 : jOpI f0 (v3_1.toInt + 1) a2.toInt = r_20.toInt := by rw [hr_20p_0]; congr 1; omega
                have hr_20' := jb_01 hr_20b
                refine lv_if_eq (tgt := 70) hx hb dX14_sentenceEnd_63 (by decide) (fun c_21 => ?_) (fun c_21 => ?_)
                · skip
                  have c_21' : r_20.toInt = 0 := jb_eq (rfl) ((by decide)) c_21
                  obtain ⟨z_22, ez_22⟩ : ∃ y : Int32, y = v3_1 + 1 := ⟨_, rfl⟩
                  refine lv_iinc (v := z_22) (lv' := [(3, .int z_22), (0, .ref r0), (1, .int a1), (2, .int a2)]) hx hb dX14_sentenceEnd_70 hl (k := 3) rfl (by rw [ez_22]; rfl) (by decide) rfl (fun ls hl => ?_)
                  have hz_22 : z_22.toInt = v3_1.toInt + 1 := by rw [ez_22]; exact jb_iadd2 (rfl) (by decide) (by omega)
                  refine lv_goto (tgt := 2) hx hb dX14_sentenceEnd_73 (by decide) ?_
                  exact L2 z_22 (kf - 1) _ _ hh_19 (by refine ⟨by omega, by omega, by omega, ?_⟩; first | exact (jSx_c (by omega) (by omega) (by omega) (by omega) (zz_none)).trans hi_1_3 | exact (jSx_n (by omega) (by omega) (by omega) (jDt_0 (by first | exact Or.inl (by rw [← hqz_6]; omega) | exact Or.inr ⟨by omega, (by rw [← hqz_13, ← hr_15p]; omega), by omega⟩)) (by omega)).trans hi_1_3) (by omega) _ (lv_sub hl [1, 2, 3, 0] rfl)
                · skip
                  have c_21' : r_20.toInt ≠ 0 := jb_eq_n (rfl) ((by decide)) c_21
                  refine lv_iload_n hx hb dX14_sentenceEnd_66 rfl (lv_at hl 3 rfl) ?_
                  refine lv_iconst (v := 1) hx hb dX14_sentenceEnd_67 (by decide) ?_
                  refine lv_iadd hx hb dX14_sentenceEnd_68 ?_
                  refine lv_topi (fun z_23 ez_23 => ?_)
                  have hz_23 : z_23.toInt = v3_1.toInt + 1 := by rw [ez_23]; exact jb_iadd2 (rfl) ((by decide)) (by omega)
                  rw [hQ]
                  exact W.iret (v := z_23) hx hb hr (fun t ht hW => ⟨⟨z_23, (), rfl, by refine ⟨?_, by omega, by omega, by omega⟩; exact (jSx_d (by omega) (by omega) (by omega) (jDt_1 (by rw [← hqz_6]; omega) (by first | exact Or.inl (by omega) | exact Or.inr (Or.inl (by rw [← hqz_13, ← hr_15p]; omega)) | exact Or.inr (Or.inr (by rw [ho60]; omega)))) (by omega)).trans hi_1_3, hh_19.rt (M1 := []) [] rfl ht⟩, by rw [ht]; try exact hh_19.1.1, fun q h9 hq => by rw [ht]; try exact hh_19.1.2.1 q h9 hq⟩) hh_19.1.2.2 dX14_sentenceEnd_69
        · skip
          have c_5' : r_4.toInt ≠ 0 := jb_eq_n (rfl) ((by decide)) c_5
          refine lv_aload_n hx hb dX14_sentenceEnd_16 rfl (lv_at hl 0 rfl) ?_
          refine lv_iload_n hx hb dX14_sentenceEnd_17 rfl (lv_at hl 3 rfl) ?_
          refine lv_iload_n hx hb dX14_sentenceEnd_18 rfl (lv_at hl 2 rfl) ?_
          refine va_calli (A0 := jA base) (H0 := s.heap) (va_runS (As := [.ref r0, .int v3_1, .int a2]) (rest := []) ⟨hx, hb, hml, hown, hts⟩ (uX14_behindComment l dC dI ca base B hB hAp hB101 G0 H_3 r0 v3_1 a2 n0 f0) (va_cwS 3 hts (jgS (jWr_57 _ (List.mem_of_getElem? (i := 22) rfl)) (jWr_57 _ (List.mem_of_getElem? (i := 23) rfl)) (jWr_1 _ (List.mem_of_getElem? (i := 5) rfl)) (jWr_58 _ (List.mem_of_getElem? (i := 0) rfl))) rfl rfl rfl (by decide +kernel) ⟨by rw [← hR]; exact Nat.le_of_ble_eq_true rfl, by rw [← hR]; exact Nat.le_of_ble_eq_true rfl⟩) ⟨fun a U g mk q => by obtain ⟨q0, q1, q2, qK, q10, q11, q12, q13⟩ := q; exact ⟨q0, q1, q2, jG.calling g mk a qK, q10, q11, q12, q13⟩, fun U hU hW => ⟨rfl, hU, hh_3.2.1, hG.step hW hU hh_3.1, hg_r0, jP.nil, (hh_3.2.2.2.2.2.2.2.1.sub (L1 := [(r0, 101, n0, ca 1, f0)]) [0] rfl), by first | omega | (refine ⟨?_, ?_, ?_, ?_⟩ <;> (first | omega | rfl | assumption | decide | exact Or.inl rfl | exact Or.inr rfl | (simp only; omega)))⟩⟩ rfl rfl hl.1 rfl (lv_room (Nat.le_of_ble_eq_true rfl)) dX14_sentenceEnd_19 ⟨Nat.zero_le _, Nat.zero_le _⟩) hh_3.1 (fun q _ h => h) (fun q h => h) (fun r_25 u_24 t_24 H_24 locs_24 ht_24 hvm_24 hr_25 hb_24 hz_24 hk_24 hS_24 => ?_)
          rw [ht_24] at hb_24
          obtain ⟨hb_241, hb_242, hb_243, hb_244, hb_245⟩ := hb_24
          have hh_24 : jSt (dC, dI) B base G0 G0 EX14_sentenceEndK s.heap 0 0 [] [(r0, 101, n0, ca 1, f0)] [] H_24 locs_24 := ((hh_3.call hb_241 hb_242 hb_243 hb_244 hS_24 rfl (L1 := []) [] rfl rfl (M1 := [(r0, 101, n0, ca 1, f0)]) [0] rfl rfl (I1 := []) [] rfl rfl).more hb_245)
          clear hh_3 ht_24 hvm_24 hz_24 hk_24 hS_24 hb_241 hb_242 hb_243 hb_244 hb_245
          obtain ⟨hr_25_0, hr_25_1, hr_25_2, hr_25_3⟩ := hr_25
          refine lv_istore_n (lv' := [(3, .int r_25), (0, .ref r0), (1, .int a1), (2, .int a2)]) hx hb dX14_sentenceEnd_22 rfl hl (by decide) rfl (fun ls hl => ?_)
          refine lv_iload_n hx hb dX14_sentenceEnd_23 rfl (lv_at hl 0 rfl) ?_
          refine lv_if_ge (tgt := 2) hx hb dX14_sentenceEnd_24 (by decide) (fun c_26 => ?_) (fun c_26 => ?_)
          · skip
            have c_26' : r_25.toInt ≥ 0 := jb_ge (rfl) ((by decide)) c_26
            first | (have hr_25_3q := hr_25_3.resolve_left (by omega); clear hr_25_3) | (have hr_25_3q := hr_25_3.resolve_right (by omega); clear hr_25_3) | skip
            exact L2 r_25 (kf - 1) _ _ hh_24 (by refine ⟨by omega, by omega, by omega, ?_⟩; first | exact (jSx_c (by omega) (by omega) (by omega) (by omega) hr_25_0).trans hi_1_3 | exact (jSx_n (by omega) (by omega) (by omega) (jDt_0 (by first | exact Or.inl (by rw [← (zz_none)]; omega) | exact Or.inr ⟨by omega, (by rw [← (zz_none), ← (zz_none)]; omega), by omega⟩)) (by omega)).trans hi_1_3) (by omega) _ (lv_sub hl [1, 2, 3, 0] rfl)
          · skip
            have c_26' : r_25.toInt < 0 := jb_ge_n (rfl) ((by decide)) c_26
            first | (have hr_25_3q := hr_25_3.resolve_left (by omega); clear hr_25_3) | (have hr_25_3q := hr_25_3.resolve_right (by omega); clear hr_25_3) | skip
            refine lv_iconst (v := (-1)) hx hb dX14_sentenceEnd_27 (by decide) ?_
            rw [hQ]
            exact W.iret (v := (-1)) hx hb hr (fun t ht hW => ⟨⟨(-1), (), rfl, by refine ⟨?_, by omega, by omega, by omega⟩; exact (jSx_u (b := r_25.toInt) (by omega) (by omega) (by omega) (by omega) hr_25_0 hkm1).trans hi_1_3, hh_24.rt (M1 := []) [] rfl ht⟩, by rw [ht]; try exact hh_24.1.1, fun q h9 hq => by rw [ht]; try exact hh_24.1.2.1 q h9 hq⟩) hh_24.1.2.2 dX14_sentenceEnd_28
  exact L2 (a2.toInt - (a1 : Int32).toInt : Int).toNat.succ a1 ((a2.toInt - a1.toInt).toNat + 1) _ _ hh (by exact ⟨by omega, by omega, by omega, rfl⟩) (by omega) _ (lv_sub hl [1, 2, 3, 0] rfl)
