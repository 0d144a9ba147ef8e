section
def EX11_opensCommenta9 : List (Nat × Nat) := []
def EX11_commentEnda9 : List (Nat × Nat) := []
set_option maxHeartbeats 4000000 in
set_option maxRecDepth 20000 in
theorem uX11_opensCommenta9 (l : Launch) (dC : Nat → ClassId) (dI : Nat → Nat → Nat) (ca : Nat → ClassId) (base : Nat) (B : jF) (hB : jBok B) (hAp : jAp (dC, dI)) (hB175 : ∀ n G a H, B 175 n G a H ↔ jAr (dC, dI) (ca 1) (fun j z => True) n a H) (G0 : jT) (H0 : Heap) (r0 : Nat) (a1 : Int32) (a2 : Int32) (n0 : Nat) : Met l yX11_opensComment (jw yX11_opensComment cX11_opensComment 3 (some .boolean)) ({ frames := 0, cells := 0, slots := 0, locals := 0 }) (va_Pc [.ref r0, .int a1, .int a2] (fun U => U.heap = H0 ∧ jX B base G0 [] H0 ∧ jG dC dI ca base U ∧ G0 r0 = some (175, n0) ∧ jP (dC, dI) G0 H0 [] ∧ n0 < 1000000 ∧ a1.toInt ≤ 1000000)) (va_Qi (S := Unit) (fun r u => (r = 0 ∨ r = 1) ∧ (r.toInt = 0 ∨ (0 ≤ a1.toInt ∧ a1.toInt + 1 < a2.toInt ∧ a2.toInt ≤ n0))) (fun u t => jRt (dC, dI) B base G0 EX11_opensCommenta9 H0 [] t.heap) (jA base)) 0 0 (jA base) := by
  refine Met.ofW (cc := cX11_opensComment) (maxL := 3) (ret := (some .boolean)) (by decide) rfl ?_
  intro p e s m args below meth c s₁ Bd hml hv
  obtain ⟨rfl, hH0, hX, hG, hg_r0, hP0, hp0, hp1⟩ := hv
  have hK := hG.1
  have hx := Bd.exec
  have hb := Bd.bytes
  have hr := Bd.returns
  have hts := atoms_spec (ws := (jw yX11_opensComment cX11_opensComment 3 (some .boolean))) Bd.pre
  have htw : ∀ w ∈ jWl, w.before _ s = true := fun w h => hts w (List.mem_cons_of_mem _ h)
  have hown : s.vm.findClass RX11 = some m.cls := findClass_of_methodNamed Bd.named
  have hlocks := Bd.notSynchronized
  obtain ⟨Q, hQ⟩ : ∃ Q, Q = MQ below (va_Qi (S := Unit) (fun r u => (r = 0 ∨ r = 1) ∧ (r.toInt = 0 ∨ (0 ≤ a1.toInt ∧ a1.toInt + 1 < a2.toInt ∧ a2.toInt ≤ n0))) (fun u t => jRt (dC, dI) B base G0 EX11_opensCommenta9 H0 [] t.heap) (jA base)) ([.ref r0, .int a1, .int a2] : List Value).toArray s 0 0 (jA base) := ⟨_, rfl⟩
  rw [← hQ]
  have hl := lv_entry ([.ref r0, .int a1, .int a2]) (n := 3) (Nat.le_of_ble_eq_true rfl)
  rw [lg_entry_eq]
  generalize (lg_sl ([.ref r0, .int a1, .int a2]) ++ List.replicate (3 - (lg_sl ([.ref r0, .int a1, .int a2])).length) Slot.unset).toArray = ls at hl ⊢
  have hl : lv_has ls 3 [(0, .ref r0), (1, .int a1), (2, .int a2)] := hl
  generalize hR : (headSpec (jw yX11_opensComment cX11_opensComment 3 (some .boolean)) ({ frames := 0, cells := 0, slots := 0, locals := 0 })).room = R
  subst hH0
  have hh : jSt (dC, dI) B base G0 G0 EX11_opensCommenta9 s.heap 0 0 [] [] [] s.heap [] := jSt.start hX hP0 jMc.nil jIs.nil
  clear hX hP0
  have hk0 : (0 : Int32).toInt = 0 := by decide
  have hk1 : (1 : Int32).toInt = 1 := by decide
  have hk40 : (40 : Int32).toInt = 40 := by decide
  have hk42 : (42 : Int32).toInt = 42 := by decide
  have hrg_a1 := jb_rng a1
  have hrg_a2 := jb_rng a2
  refine lv_iload_n hx hb dX11_opensComment_0 rfl (lv_at hl 1 rfl) ?_
  refine lv_if_lt (tgt := 39) hx hb dX11_opensComment_1 (by decide) (fun c_1 => ?_) (fun c_1 => ?_)
  · skip
    have c_1' : a1.toInt < 0 := jb_lt (rfl) ((by decide)) c_1
    refine lv_iconst (v := 0) hx hb dX11_opensComment_39 (by decide) ?_
    rw [hQ]
    exact W.zret (v := 0) hx hb hr (jb_nz (Or.inl rfl)) (fun t ht hW => ⟨⟨0, (), rfl, ⟨(Or.inl rfl), by first | omega | rfl | assumption | decide | exact Or.inl rfl | exact Or.inr rfl | (simp only; omega)⟩, hh.rt (M1 := []) [] rfl ht⟩, by rw [ht]; try exact hh.1.1, fun q h9 hq => by rw [ht]; try exact hh.1.2.1 q h9 hq⟩) hh.1.2.2 dX11_opensComment_40
  · skip
    have c_1' : a1.toInt ≥ 0 := jb_lt_n (rfl) ((by decide)) c_1
    refine lv_iload_n hx hb dX11_opensComment_4 rfl (lv_at hl 1 rfl) ?_
    refine lv_iconst (v := 1) hx hb dX11_opensComment_5 (by decide) ?_
    refine lv_iadd hx hb dX11_opensComment_6 ?_
    refine lv_topi (fun z_2 ez_2 => ?_)
    have hz_2 : z_2.toInt = a1.toInt + 1 := by rw [ez_2]; exact jb_iadd2 (rfl) ((by decide)) (by omega)
    refine lv_iload_n hx hb dX11_opensComment_7 rfl (lv_at hl 2 rfl) ?_
    refine lv_icmp_ge (tgt := 39) hx hb dX11_opensComment_8 (by decide) (fun c_3 => ?_) (fun c_3 => ?_)
    · skip
      have c_3' : z_2.toInt ≥ a2.toInt := jb_ge (rfl) (rfl) c_3
      refine lv_iconst (v := 0) hx hb dX11_opensComment_39 (by decide) ?_
      rw [hQ]
      exact W.zret (v := 0) hx hb hr (jb_nz (Or.inl rfl)) (fun t ht hW => ⟨⟨0, (), rfl, ⟨(Or.inl rfl), by first | omega | rfl | assumption | decide | exact Or.inl rfl | exact Or.inr rfl | (simp only; omega)⟩, hh.rt (M1 := []) [] rfl ht⟩, by rw [ht]; try exact hh.1.1, fun q h9 hq => by rw [ht]; try exact hh.1.2.1 q h9 hq⟩) hh.1.2.2 dX11_opensComment_40
    · skip
      have c_3' : z_2.toInt < a2.toInt := jb_ge_n (rfl) (rfl) c_3
      refine lv_iload_n hx hb dX11_opensComment_11 rfl (lv_at hl 2 rfl) ?_
      refine lv_aload_n hx hb dX11_opensComment_12 rfl (lv_at hl 0 rfl) ?_
      refine j7_len hx hb hK hh hB175 1 rfl (by decide) hg_r0 (by omega) dX11_opensComment_13 (fun z_4 hz_4 => ?_)
      refine lv_icmp_gt (tgt := 39) hx hb dX11_opensComment_14 (by decide) (fun c_5 => ?_) (fun c_5 => ?_)
      · skip
        have c_5' : a2.toInt > z_4.toInt := jb_gt (rfl) (rfl) c_5
        refine lv_iconst (v := 0) hx hb dX11_opensComment_39 (by decide) ?_
        rw [hQ]
        exact W.zret (v := 0) hx hb hr (jb_nz (Or.inl rfl)) (fun t ht hW => ⟨⟨0, (), rfl, ⟨(Or.inl rfl), by first | omega | rfl | assumption | decide | exact Or.inl rfl | exact Or.inr rfl | (simp only; omega)⟩, hh.rt (M1 := []) [] rfl ht⟩, by rw [ht]; try exact hh.1.1, fun q h9 hq => by rw [ht]; try exact hh.1.2.1 q h9 hq⟩) hh.1.2.2 dX11_opensComment_40
      · skip
        have c_5' : a2.toInt ≤ z_4.toInt := jb_gt_n (rfl) (rfl) c_5
        refine lv_aload_n hx hb dX11_opensComment_17 rfl (lv_at hl 0 rfl) ?_
        refine lv_iload_n hx hb dX11_opensComment_18 rfl (lv_at hl 1 rfl) ?_
        refine j7_iald hx hb hK hh hB175 1 rfl (by decide) hg_r0 (x := a1.toInt) (rfl) (by omega) dX11_opensComment_19 (fun z_6 (hz_6 : True) => ?_)
        refine lv_bipush (v := 40) hx hb dX11_opensComment_20 (by decide) ?_
        refine lv_icmp_ne (tgt := 39) hx hb dX11_opensComment_22 (by decide) (fun c_7 => ?_) (fun c_7 => ?_)
        · skip
          have c_7' : z_6.toInt ≠ 40 := jb_ne (rfl) ((by decide)) c_7
          refine lv_iconst (v := 0) hx hb dX11_opensComment_39 (by decide) ?_
          rw [hQ]
          exact W.zret (v := 0) hx hb hr (jb_nz (Or.inl rfl)) (fun t ht hW => ⟨⟨0, (), rfl, ⟨(Or.inl rfl), by first | omega | rfl | assumption | decide | exact Or.inl rfl | exact Or.inr rfl | (simp only; omega)⟩, hh.rt (M1 := []) [] rfl ht⟩, by rw [ht]; try exact hh.1.1, fun q h9 hq => by rw [ht]; try exact hh.1.2.1 q h9 hq⟩) hh.1.2.2 dX11_opensComment_40
        · skip
          have c_7' : z_6.toInt = 40 := jb_ne_n (rfl) ((by decide)) c_7
          refine lv_aload_n hx hb dX11_opensComment_25 rfl (lv_at hl 0 rfl) ?_
          refine lv_iload_n hx hb dX11_opensComment_26 rfl (lv_at hl 1 rfl) ?_
          refine lv_iconst (v := 1) hx hb dX11_opensComment_27 (by decide) ?_
          refine lv_iadd hx hb dX11_opensComment_28 ?_
          refine lv_topi (fun z_8 ez_8 => ?_)
          have hz_8 : z_8.toInt = a1.toInt + 1 := by rw [ez_8]; exact jb_iadd2 (rfl) ((by decide)) (by omega)
          refine j7_iald hx hb hK hh hB175 1 rfl (by decide) hg_r0 (x := z_8.toInt) (rfl) (by omega) dX11_opensComment_29 (fun z_9 (hz_9 : True) => ?_)
          refine lv_bipush (v := 42) hx hb dX11_opensComment_30 (by decide) ?_
          refine lv_icmp_ne (tgt := 39) hx hb dX11_opensComment_32 (by decide) (fun c_10 => ?_) (fun c_10 => ?_)
          · skip
            have c_10' : z_9.toInt ≠ 42 := jb_ne (rfl) ((by decide)) c_10
            refine lv_iconst (v := 0) hx hb dX11_opensComment_39 (by decide) ?_
            rw [hQ]
            exact W.zret (v := 0) hx hb hr (jb_nz (Or.inl rfl)) (fun t ht hW => ⟨⟨0, (), rfl, ⟨(Or.inl rfl), by first | omega | rfl | assumption | decide | exact Or.inl rfl | exact Or.inr rfl | (simp only; omega)⟩, hh.rt (M1 := []) [] rfl ht⟩, by rw [ht]; try exact hh.1.1, fun q h9 hq => by rw [ht]; try exact hh.1.2.1 q h9 hq⟩) hh.1.2.2 dX11_opensComment_40
          · skip
            have c_10' : z_9.toInt = 42 := jb_ne_n (rfl) ((by decide)) c_10
            refine lv_iconst (v := 1) hx hb dX11_opensComment_35 (by decide) ?_
            refine lv_goto (tgt := 40) hx hb dX11_opensComment_36 (by decide) ?_
            rw [hQ]
            exact W.zret (v := 1) hx hb hr (jb_nz (Or.inr rfl)) (fun t ht hW => ⟨⟨1, (), rfl, ⟨(Or.inr rfl), by first | omega | rfl | assumption | decide | exact Or.inl rfl | exact Or.inr rfl | (simp only; omega)⟩, hh.rt (M1 := []) [] rfl ht⟩, by rw [ht]; try exact hh.1.1, fun q h9 hq => by rw [ht]; try exact hh.1.2.1 q h9 hq⟩) hh.1.2.2 dX11_opensComment_40
set_option maxHeartbeats 4000000 in
set_option maxRecDepth 20000 in
theorem uX11_commentEnda9 (l : Launch) (dC : Nat → ClassId) (dI : Nat → Nat → Nat) (ca : Nat → ClassId) (base : Nat) (B : jF) (hB : jBok B) (hAp : jAp (dC, dI)) (hB101 : ∀ n G a H, B 101 n G a H ↔ jAr (dC, dI) (ca 1) (fun j z => True) n a H) (hB175 : ∀ n G a H, B 175 n G a H ↔ jAr (dC, dI) (ca 1) (fun j z => True) n a H) (G0 : jT) (H0 : Heap) (r0 : Nat) (a1 : Int32) (a2 : Int32) (n0 : Nat) : Met l yX11_commentEnd (jw yX11_commentEnd cX11_commentEnd 5 (some .int)) ({ frames := 1, cells := 0, slots := 0, locals := 22 }) (va_Pc [.ref r0, .int a1, .int a2] (fun U => U.heap = H0 ∧ jX B base G0 [] H0 ∧ jG dC dI ca base U ∧ G0 r0 = some (175, n0) ∧ jP (dC, dI) G0 H0 [] ∧ n0 < 1000000 ∧ a1.toInt ≤ 1000000)) (va_Qi (S := Unit) (fun r u => (r.toInt = -1 ∨ (a1.toInt + 4 ≤ r.toInt ∧ r.toInt ≤ a2.toInt))) (fun u t => jRt (dC, dI) B base G0 EX11_commentEnda9 H0 [] t.heap) (jA base)) 0 0 (jA base) := by
  refine Met.ofW (cc := cX11_commentEnd) (maxL := 5) (ret := (some .int)) (by decide) rfl ?_
  intro p e s m args below meth c s₁ Bd hml hv
  obtain ⟨rfl, hH0, hX, hG, hg_r0, hP0, hp0, hp1⟩ := hv
  have hK := hG.1
  have hx := Bd.exec
  have hb := Bd.bytes
  have hr := Bd.returns
  have hts := atoms_spec (ws := (jw yX11_commentEnd cX11_commentEnd 5 (some .int))) Bd.pre
  have htw : ∀ w ∈ jWl, w.before _ s = true := fun w h => hts w (List.mem_cons_of_mem _ h)
  have hown : s.vm.findClass RX11 = some m.cls := findClass_of_methodNamed Bd.named
  have hlocks := Bd.notSynchronized
  obtain ⟨Q, hQ⟩ : ∃ Q, Q = MQ below (va_Qi (S := Unit) (fun r u => (r.toInt = -1 ∨ (a1.toInt + 4 ≤ r.toInt ∧ r.toInt ≤ a2.toInt))) (fun u t => jRt (dC, dI) B base G0 EX11_commentEnda9 H0 [] t.heap) (jA base)) ([.ref r0, .int a1, .int a2] : List Value).toArray s 0 0 (jA base) := ⟨_, rfl⟩
  rw [← hQ]
  have hl := lv_entry ([.ref r0, .int a1, .int a2]) (n := 5) (Nat.le_of_ble_eq_true rfl)
  rw [lg_entry_eq]
  generalize (lg_sl ([.ref r0, .int a1, .int a2]) ++ List.replicate (5 - (lg_sl ([.ref r0, .int a1, .int a2])).length) Slot.unset).toArray = ls at hl ⊢
  have hl : lv_has ls 5 [(0, .ref r0), (1, .int a1), (2, .int a2)] := hl
  generalize hR : (headSpec (jw yX11_commentEnd cX11_commentEnd 5 (some .int)) ({ frames := 1, cells := 0, slots := 0, locals := 22 })).room = R
  subst hH0
  have hh : jSt (dC, dI) B base G0 G0 EX11_commentEnda9 s.heap 0 0 [] [] [] s.heap [] := jSt.start hX hP0 jMc.nil jIs.nil
  clear hX hP0
  have hkm1 : ((-1) : Int32).toInt = (-1) := by decide
  have hk0 : (0 : Int32).toInt = 0 := by decide
  have hk1 : (1 : Int32).toInt = 1 := by decide
  have hk2 : (2 : Int32).toInt = 2 := by decide
  have hk40 : (40 : Int32).toInt = 40 := by decide
  have hk41 : (41 : Int32).toInt = 41 := by decide
  have hk42 : (42 : Int32).toInt = 42 := by decide
  have hrg_a1 := jb_rng a1
  have hrg_a2 := jb_rng a2
  refine lv_aload_n hx hb dX11_commentEnd_0 rfl (lv_at hl 0 rfl) ?_
  refine lv_iload_n hx hb dX11_commentEnd_1 rfl (lv_at hl 1 rfl) ?_
  refine lv_iload_n hx hb dX11_commentEnd_2 rfl (lv_at hl 2 rfl) ?_
  refine va_calli (A0 := jA base) (H0 := s.heap) (va_runS (As := [.ref r0, .int a1, .int a2]) (rest := []) ⟨hx, hb, hml, hown, hts⟩ (uX11_opensCommenta9 l dC dI ca base B hB hAp hB175 G0 s.heap r0 a1 a2 n0) (va_cwS 3 hts (jgS (jWr_36 _ (List.mem_of_getElem? (i := 12) rfl)) (jWr_36 _ (List.mem_of_getElem? (i := 13) rfl)) (jWr_1 _ (List.mem_of_getElem? (i := 2) rfl)) (jWr_36 _ (List.mem_of_getElem? (i := 14) rfl))) rfl rfl rfl (by decide +kernel) ⟨by rw [← hR]; exact Nat.le_of_ble_eq_true rfl, by rw [← hR]; exact Nat.le_of_ble_eq_true rfl⟩) ⟨fun a U g mk q => by obtain ⟨q0, q1, q2, qK, q10, q11, q12⟩ := q; exact ⟨q0, q1, q2, jG.calling g mk a qK, q10, q11, q12⟩, fun U hU hW => ⟨rfl, hU, hh.2.1, hG.step hW hU hh.1, hg_r0, jP.nil, by first | omega | (refine ⟨?_, ?_⟩ <;> (first | omega | rfl | assumption | decide | exact Or.inl rfl | exact Or.inr rfl | (simp only; omega)))⟩⟩ rfl rfl hl.1 rfl (lv_room (Nat.le_of_ble_eq_true rfl)) dX11_commentEnd_3 ⟨Nat.zero_le _, Nat.zero_le _⟩) hh.1 (fun q _ h => h) (fun q h => h) (fun r_2 u_1 t_1 H_1 locs_1 ht_1 hvm_1 hr_2 hb_1 hz_1 hk_1 hS_1 => ?_)
  rw [ht_1] at hb_1
  obtain ⟨hb_11, hb_12, hb_13, hb_14, hb_15⟩ := hb_1
  have hh_1 : jSt (dC, dI) B base G0 G0 EX11_commentEnda9 s.heap 0 0 [] [] [] H_1 locs_1 := ((hh.call hb_11 hb_12 hb_13 hb_14 hS_1 rfl (L1 := []) [] rfl rfl (M1 := []) [] rfl rfl (I1 := []) [] rfl rfl).more hb_15)
  clear hh ht_1 hvm_1 hz_1 hk_1 hS_1 hb_11 hb_12 hb_13 hb_14 hb_15
  obtain ⟨hr_2b, hr_2p⟩ := hr_2
  have hr_2' := jb_01 hr_2b
  refine lv_if_ne (tgt := 11) hx hb dX11_commentEnd_6 (by decide) (fun c_3 => ?_) (fun c_3 => ?_)
  · skip
    have c_3' : r_2.toInt ≠ 0 := jb_ne (rfl) ((by decide)) c_3
    first | (have hr_2pq := hr_2p.resolve_left (by omega); clear hr_2p) | (have hr_2pq := hr_2p.resolve_right (by omega); clear hr_2p) | try clear hr_2p
    refine lv_iconst (v := 1) hx hb dX11_commentEnd_11 (by decide) ?_
    refine lv_istore_n (lv' := [(3, .int 1), (0, .ref r0), (1, .int a1), (2, .int a2)]) hx hb dX11_commentEnd_12 rfl hl (by decide) rfl (fun ls hl => ?_)
    refine lv_iload_n hx hb dX11_commentEnd_13 rfl (lv_at hl 2 rfl) ?_
    refine lv_iconst (v := 2) hx hb dX11_commentEnd_14 (by decide) ?_
    refine lv_iadd hx hb dX11_commentEnd_15 ?_
    refine lv_topi (fun z_4 ez_4 => ?_)
    have hz_4 : z_4.toInt = a1.toInt + 2 := by rw [ez_4]; exact jb_iadd2 (rfl) ((by decide)) (by omega)
    refine lv_istore (lv' := [(4, .int z_4), (3, .int 1), (0, .ref r0), (1, .int a1), (2, .int a2)]) hx hb dX11_commentEnd_16 hl (by decide) rfl (fun ls hl => ?_)
    have L18 : ∀ (N : Nat) (v3_5 : Int32) (v4_5 : Int32) (H_5 : Heap) (locs_5 : List Loc), jSt (dC, dI) B base G0 G0 EX11_commentEnda9 s.heap 0 0 [] [] [] H_5 locs_5 → (a1.toInt + 2 ≤ v4_5.toInt ∧ v4_5.toInt ≤ a2.toInt + 2 ∧ 1 ≤ v3_5.toInt ∧ v3_5.toInt ≤ v4_5.toInt) → (((a2.toInt - v4_5.toInt).toNat : Int) : Int) < N → ∀ ls : Array Slot, lv_has ls 5 [(0, .ref r0), (1, .int a1), (2, .int a2), (3, .int v3_5), (4, .int v4_5)] → W p l e R s m ([.ref r0, .int a1, .int a2] : List Value).toArray below meth c H_5 locs_5 0 0 Q (F0 m 18 ls []) := by
      intro N
      induction N with
      | zero => intro v3_5 v4_5 H_5 locs_5 hh_5  hi_5 hm; exact absurd hm (by omega)
      | succ N L18 =>
        intro v3_5 v4_5 H_5 locs_5 hh_5  hi_5 hm_5 ls hl
        obtain ⟨hi_5_0, hi_5_1, hi_5_2, hi_5_3⟩ := hi_5
        refine lv_iload hx hb dX11_commentEnd_18 (lv_at hl 4 rfl) ?_
        refine lv_iconst (v := 1) hx hb dX11_commentEnd_20 (by decide) ?_
        refine lv_iadd hx hb dX11_commentEnd_21 ?_
        refine lv_topi (fun z_6 ez_6 => ?_)
        have hz_6 : z_6.toInt = v4_5.toInt + 1 := by rw [ez_6]; exact jb_iadd2 (rfl) ((by decide)) (by omega)
        refine lv_iload_n hx hb dX11_commentEnd_22 rfl (lv_at hl 2 rfl) ?_
        refine lv_icmp_ge (tgt := 96) hx hb dX11_commentEnd_23 (by decide) (fun c_7 => ?_) (fun c_7 => ?_)
        · skip
          have c_7' : z_6.toInt ≥ a2.toInt := jb_ge (rfl) (rfl) c_7
          refine lv_iconst (v := (-1)) hx hb dX11_commentEnd_96 (by decide) ?_
          rw [hQ]
          exact W.iret (v := (-1)) hx hb hr (fun t ht hW => ⟨⟨(-1), (), rfl, by first | omega | rfl | assumption | decide | exact Or.inl rfl | exact Or.inr rfl | (simp only; omega), hh_5.rt (M1 := []) [] rfl ht⟩, by rw [ht]; try exact hh_5.1.1, fun q h9 hq => by rw [ht]; try exact hh_5.1.2.1 q h9 hq⟩) hh_5.1.2.2 dX11_commentEnd_97
        · skip
          have c_7' : z_6.toInt < a2.toInt := jb_ge_n (rfl) (rfl) c_7
          refine lv_aload_n hx hb dX11_commentEnd_26 rfl (lv_at hl 0 rfl) ?_
          refine lv_iload hx hb dX11_commentEnd_27 (lv_at hl 4 rfl) ?_
          refine j7_iald hx hb hK hh_5 hB175 1 rfl (by decide) hg_r0 (x := v4_5.toInt) (rfl) (by omega) dX11_commentEnd_29 (fun z_8 (hz_8 : True) => ?_)
          refine lv_bipush (v := 40) hx hb dX11_commentEnd_30 (by decide) ?_
          refine lv_icmp_ne (tgt := 55) hx hb dX11_commentEnd_32 (by decide) (fun c_9 => ?_) (fun c_9 => ?_)
          · skip
            have c_9' : z_8.toInt ≠ 40 := jb_ne (rfl) ((by decide)) c_9
            refine lv_aload_n hx hb dX11_commentEnd_55 rfl (lv_at hl 0 rfl) ?_
            refine lv_iload hx hb dX11_commentEnd_56 (lv_at hl 4 rfl) ?_
            refine j7_iald hx hb hK hh_5 hB175 1 rfl (by decide) hg_r0 (x := v4_5.toInt) (rfl) (by omega) dX11_commentEnd_58 (fun z_10 (hz_10 : True) => ?_)
            refine lv_bipush (v := 42) hx hb dX11_commentEnd_59 (by decide) ?_
            refine lv_icmp_ne (tgt := 90) hx hb dX11_commentEnd_61 (by decide) (fun c_11 => ?_) (fun c_11 => ?_)
            · skip
              have c_11' : z_10.toInt ≠ 42 := jb_ne (rfl) ((by decide)) c_11
              obtain ⟨z_12, ez_12⟩ : ∃ y : Int32, y = v4_5 + 1 := ⟨_, rfl⟩
              refine lv_iinc (v := z_12) (lv' := [(4, .int z_12), (0, .ref r0), (1, .int a1), (2, .int a2), (3, .int v3_5)]) hx hb dX11_commentEnd_90 hl (k := 4) rfl (by rw [ez_12]; rfl) (by decide) rfl (fun ls hl => ?_)
              have hz_12 : z_12.toInt = v4_5.toInt + 1 := by rw [ez_12]; exact jb_iadd2 (rfl) (by decide) (by omega)
              refine lv_goto (tgt := 18) hx hb dX11_commentEnd_93 (by decide) ?_
              exact L18 v3_5 z_12 _ _ hh_5 (by first | omega | (refine ⟨?_, ?_, ?_, ?_⟩ <;> (first | omega | rfl | assumption | decide | exact Or.inl rfl | exact Or.inr rfl | (simp only; omega)))) (by omega) _ (lv_sub hl [1, 2, 3, 4, 0] rfl)
            · skip
              have c_11' : z_10.toInt = 42 := jb_ne_n (rfl) ((by decide)) c_11
              refine lv_aload_n hx hb dX11_commentEnd_64 rfl (lv_at hl 0 rfl) ?_
              refine lv_iload hx hb dX11_commentEnd_65 (lv_at hl 4 rfl) ?_
              refine lv_iconst (v := 1) hx hb dX11_commentEnd_67 (by decide) ?_
              refine lv_iadd hx hb dX11_commentEnd_68 ?_
              refine lv_topi (fun z_13 ez_13 => ?_)
              have hz_13 : z_13.toInt = v4_5.toInt + 1 := by rw [ez_13]; exact jb_iadd2 (rfl) ((by decide)) (by omega)
              refine j7_iald hx hb hK hh_5 hB175 1 rfl (by decide) hg_r0 (x := z_13.toInt) (rfl) (by omega) dX11_commentEnd_69 (fun z_14 (hz_14 : True) => ?_)
              refine lv_bipush (v := 41) hx hb dX11_commentEnd_70 (by decide) ?_
              refine lv_icmp_ne (tgt := 90) hx hb dX11_commentEnd_72 (by decide) (fun c_15 => ?_) (fun c_15 => ?_)
              · skip
                have c_15' : z_14.toInt ≠ 41 := jb_ne (rfl) ((by decide)) c_15
                obtain ⟨z_16, ez_16⟩ : ∃ y : Int32, y = v4_5 + 1 := ⟨_, rfl⟩
                refine lv_iinc (v := z_16) (lv' := [(4, .int z_16), (0, .ref r0), (1, .int a1), (2, .int a2), (3, .int v3_5)]) hx hb dX11_commentEnd_90 hl (k := 4) rfl (by rw [ez_16]; rfl) (by decide) rfl (fun ls hl => ?_)
                have hz_16 : z_16.toInt = v4_5.toInt + 1 := by rw [ez_16]; exact jb_iadd2 (rfl) (by decide) (by omega)
                refine lv_goto (tgt := 18) hx hb dX11_commentEnd_93 (by decide) ?_
                exact L18 v3_5 z_16 _ _ hh_5 (by first | omega | (refine ⟨?_, ?_, ?_, ?_⟩ <;> (first | omega | rfl | assumption | decide | exact Or.inl rfl | exact Or.inr rfl | (simp only; omega)))) (by omega) _ (lv_sub hl [1, 2, 3, 4, 0] rfl)
              · skip
                have c_15' : z_14.toInt = 41 := jb_ne_n (rfl) ((by decide)) c_15
                obtain ⟨z_17, ez_17⟩ : ∃ y : Int32, y = v3_5 + (-1) := ⟨_, rfl⟩
                refine lv_iinc (v := z_17) (lv' := [(3, .int z_17), (0, .ref r0), (1, .int a1), (2, .int a2), (4, .int v4_5)]) hx hb dX11_commentEnd_75 hl (k := 3) rfl (by rw [ez_17]; rfl) (by decide) rfl (fun ls hl => ?_)
                have hz_17 : z_17.toInt = v3_5.toInt + (-1) := by rw [ez_17]; exact jb_iadd2 (rfl) (by decide) (by omega)
                obtain ⟨z_18, ez_18⟩ : ∃ y : Int32, y = v4_5 + 1 := ⟨_, rfl⟩
                refine lv_iinc (v := z_18) (lv' := [(4, .int z_18), (3, .int z_17), (0, .ref r0), (1, .int a1), (2, .int a2)]) hx hb dX11_commentEnd_78 hl (k := 4) rfl (by rw [ez_18]; rfl) (by decide) rfl (fun ls hl => ?_)
                have hz_18 : z_18.toInt = v4_5.toInt + 1 := by rw [ez_18]; exact jb_iadd2 (rfl) (by decide) (by omega)
                refine lv_iload_n hx hb dX11_commentEnd_81 rfl (lv_at hl 1 rfl) ?_
                refine lv_if_ne (tgt := 90) hx hb dX11_commentEnd_82 (by decide) (fun c_19 => ?_) (fun c_19 => ?_)
                · skip
                  have c_19' : z_17.toInt ≠ 0 := jb_ne (rfl) ((by decide)) c_19
                  obtain ⟨z_20, ez_20⟩ : ∃ y : Int32, y = z_18 + 1 := ⟨_, rfl⟩
                  refine lv_iinc (v := z_20) (lv' := [(4, .int z_20), (3, .int z_17), (0, .ref r0), (1, .int a1), (2, .int a2)]) hx hb dX11_commentEnd_90 hl (k := 0) rfl (by rw [ez_20]; rfl) (by decide) rfl (fun ls hl => ?_)
                  have hz_20 : z_20.toInt = z_18.toInt + 1 := by rw [ez_20]; exact jb_iadd2 (rfl) (by decide) (by omega)
                  refine lv_goto (tgt := 18) hx hb dX11_commentEnd_93 (by decide) ?_
                  exact L18 z_17 z_20 _ _ hh_5 (by first | omega | (refine ⟨?_, ?_, ?_, ?_⟩ <;> (first | omega | rfl | assumption | decide | exact Or.inl rfl | exact Or.inr rfl | (simp only; omega)))) (by omega) _ (lv_sub hl [2, 3, 4, 1, 0] rfl)
                · skip
                  have c_19' : z_17.toInt = 0 := jb_ne_n (rfl) ((by decide)) c_19
                  refine lv_iload hx hb dX11_commentEnd_85 (lv_at hl 0 rfl) ?_
                  refine lv_iconst (v := 1) hx hb dX11_commentEnd_87 (by decide) ?_
                  refine lv_iadd hx hb dX11_commentEnd_88 ?_
                  refine lv_topi (fun z_21 ez_21 => ?_)
                  have hz_21 : z_21.toInt = z_18.toInt + 1 := by rw [ez_21]; exact jb_iadd2 (rfl) ((by decide)) (by omega)
                  rw [hQ]
                  exact W.iret (v := z_21) hx hb hr (fun t ht hW => ⟨⟨z_21, (), rfl, by first | omega | rfl | assumption | decide | exact Or.inl rfl | exact Or.inr rfl | (simp only; omega), hh_5.rt (M1 := []) [] rfl ht⟩, by rw [ht]; try exact hh_5.1.1, fun q h9 hq => by rw [ht]; try exact hh_5.1.2.1 q h9 hq⟩) hh_5.1.2.2 dX11_commentEnd_89
          · skip
            have c_9' : z_8.toInt = 40 := jb_ne_n (rfl) ((by decide)) c_9
            refine lv_aload_n hx hb dX11_commentEnd_35 rfl (lv_at hl 0 rfl) ?_
            refine lv_iload hx hb dX11_commentEnd_36 (lv_at hl 4 rfl) ?_
            refine lv_iconst (v := 1) hx hb dX11_commentEnd_38 (by decide) ?_
            refine lv_iadd hx hb dX11_commentEnd_39 ?_
            refine lv_topi (fun z_22 ez_22 => ?_)
            have hz_22 : z_22.toInt = v4_5.toInt + 1 := by rw [ez_22]; exact jb_iadd2 (rfl) ((by decide)) (by omega)
            refine j7_iald hx hb hK hh_5 hB175 1 rfl (by decide) hg_r0 (x := z_22.toInt) (rfl) (by omega) dX11_commentEnd_40 (fun z_23 (hz_23 : True) => ?_)
            refine lv_bipush (v := 42) hx hb dX11_commentEnd_41 (by decide) ?_
            refine lv_icmp_ne (tgt := 55) hx hb dX11_commentEnd_43 (by decide) (fun c_24 => ?_) (fun c_24 => ?_)
            · skip
              have c_24' : z_23.toInt ≠ 42 := jb_ne (rfl) ((by decide)) c_24
              refine lv_aload_n hx hb dX11_commentEnd_55 rfl (lv_at hl 0 rfl) ?_
              refine lv_iload hx hb dX11_commentEnd_56 (lv_at hl 4 rfl) ?_
              refine j7_iald hx hb hK hh_5 hB175 1 rfl (by decide) hg_r0 (x := v4_5.toInt) (rfl) (by omega) dX11_commentEnd_58 (fun z_25 (hz_25 : True) => ?_)
              refine lv_bipush (v := 42) hx hb dX11_commentEnd_59 (by decide) ?_
              refine lv_icmp_ne (tgt := 90) hx hb dX11_commentEnd_61 (by decide) (fun c_26 => ?_) (fun c_26 => ?_)
              · skip
                have c_26' : z_25.toInt ≠ 42 := jb_ne (rfl) ((by decide)) c_26
                obtain ⟨z_27, ez_27⟩ : ∃ y : Int32, y = v4_5 + 1 := ⟨_, rfl⟩
                refine lv_iinc (v := z_27) (lv' := [(4, .int z_27), (0, .ref r0), (1, .int a1), (2, .int a2), (3, .int v3_5)]) hx hb dX11_commentEnd_90 hl (k := 4) rfl (by rw [ez_27]; rfl) (by decide) rfl (fun ls hl => ?_)
                have hz_27 : z_27.toInt = v4_5.toInt + 1 := by rw [ez_27]; exact jb_iadd2 (rfl) (by decide) (by omega)
                refine lv_goto (tgt := 18) hx hb dX11_commentEnd_93 (by decide) ?_
                exact L18 v3_5 z_27 _ _ hh_5 (by first | omega | (refine ⟨?_, ?_, ?_, ?_⟩ <;> (first | omega | rfl | assumption | decide | exact Or.inl rfl | exact Or.inr rfl | (simp only; omega)))) (by omega) _ (lv_sub hl [1, 2, 3, 4, 0] rfl)
              · skip
                have c_26' : z_25.toInt = 42 := jb_ne_n (rfl) ((by decide)) c_26
                refine lv_aload_n hx hb dX11_commentEnd_64 rfl (lv_at hl 0 rfl) ?_
                refine lv_iload hx hb dX11_commentEnd_65 (lv_at hl 4 rfl) ?_
                refine lv_iconst (v := 1) hx hb dX11_commentEnd_67 (by decide) ?_
                refine lv_iadd hx hb dX11_commentEnd_68 ?_
                refine lv_topi (fun z_28 ez_28 => ?_)
                have hz_28 : z_28.toInt = v4_5.toInt + 1 := by rw [ez_28]; exact jb_iadd2 (rfl) ((by decide)) (by omega)
                refine j7_iald hx hb hK hh_5 hB175 1 rfl (by decide) hg_r0 (x := z_28.toInt) (rfl) (by omega) dX11_commentEnd_69 (fun z_29 (hz_29 : True) => ?_)
                refine lv_bipush (v := 41) hx hb dX11_commentEnd_70 (by decide) ?_
                refine lv_icmp_ne (tgt := 90) hx hb dX11_commentEnd_72 (by decide) (fun c_30 => ?_) (fun c_30 => ?_)
                · skip
                  have c_30' : z_29.toInt ≠ 41 := jb_ne (rfl) ((by decide)) c_30
                  obtain ⟨z_31, ez_31⟩ : ∃ y : Int32, y = v4_5 + 1 := ⟨_, rfl⟩
                  refine lv_iinc (v := z_31) (lv' := [(4, .int z_31), (0, .ref r0), (1, .int a1), (2, .int a2), (3, .int v3_5)]) hx hb dX11_commentEnd_90 hl (k := 4) rfl (by rw [ez_31]; rfl) (by decide) rfl (fun ls hl => ?_)
                  have hz_31 : z_31.toInt = v4_5.toInt + 1 := by rw [ez_31]; exact jb_iadd2 (rfl) (by decide) (by omega)
                  refine lv_goto (tgt := 18) hx hb dX11_commentEnd_93 (by decide) ?_
                  exact L18 v3_5 z_31 _ _ hh_5 (by first | omega | (refine ⟨?_, ?_, ?_, ?_⟩ <;> (first | omega | rfl | assumption | decide | exact Or.inl rfl | exact Or.inr rfl | (simp only; omega)))) (by omega) _ (lv_sub hl [1, 2, 3, 4, 0] rfl)
                · skip
                  have c_30' : z_29.toInt = 41 := jb_ne_n (rfl) ((by decide)) c_30
                  obtain ⟨z_32, ez_32⟩ : ∃ y : Int32, y = v3_5 + (-1) := ⟨_, rfl⟩
                  refine lv_iinc (v := z_32) (lv' := [(3, .int z_32), (0, .ref r0), (1, .int a1), (2, .int a2), (4, .int v4_5)]) hx hb dX11_commentEnd_75 hl (k := 3) rfl (by rw [ez_32]; rfl) (by decide) rfl (fun ls hl => ?_)
                  have hz_32 : z_32.toInt = v3_5.toInt + (-1) := by rw [ez_32]; exact jb_iadd2 (rfl) (by decide) (by omega)
                  obtain ⟨z_33, ez_33⟩ : ∃ y : Int32, y = v4_5 + 1 := ⟨_, rfl⟩
                  refine lv_iinc (v := z_33) (lv' := [(4, .int z_33), (3, .int z_32), (0, .ref r0), (1, .int a1), (2, .int a2)]) hx hb dX11_commentEnd_78 hl (k := 4) rfl (by rw [ez_33]; rfl) (by decide) rfl (fun ls hl => ?_)
                  have hz_33 : z_33.toInt = v4_5.toInt + 1 := by rw [ez_33]; exact jb_iadd2 (rfl) (by decide) (by omega)
                  refine lv_iload_n hx hb dX11_commentEnd_81 rfl (lv_at hl 1 rfl) ?_
                  refine lv_if_ne (tgt := 90) hx hb dX11_commentEnd_82 (by decide) (fun c_34 => ?_) (fun c_34 => ?_)
                  · skip
                    have c_34' : z_32.toInt ≠ 0 := jb_ne (rfl) ((by decide)) c_34
                    obtain ⟨z_35, ez_35⟩ : ∃ y : Int32, y = z_33 + 1 := ⟨_, rfl⟩
                    refine lv_iinc (v := z_35) (lv' := [(4, .int z_35), (3, .int z_32), (0, .ref r0), (1, .int a1), (2, .int a2)]) hx hb dX11_commentEnd_90 hl (k := 0) rfl (by rw [ez_35]; rfl) (by decide) rfl (fun ls hl => ?_)
                    have hz_35 : z_35.toInt = z_33.toInt + 1 := by rw [ez_35]; exact jb_iadd2 (rfl) (by decide) (by omega)
                    refine lv_goto (tgt := 18) hx hb dX11_commentEnd_93 (by decide) ?_
                    exact L18 z_32 z_35 _ _ hh_5 (by first | omega | (refine ⟨?_, ?_, ?_, ?_⟩ <;> (first | omega | rfl | assumption | decide | exact Or.inl rfl | exact Or.inr rfl | (simp only; omega)))) (by omega) _ (lv_sub hl [2, 3, 4, 1, 0] rfl)
                  · skip
                    have c_34' : z_32.toInt = 0 := jb_ne_n (rfl) ((by decide)) c_34
                    refine lv_iload hx hb dX11_commentEnd_85 (lv_at hl 0 rfl) ?_
                    refine lv_iconst (v := 1) hx hb dX11_commentEnd_87 (by decide) ?_
                    refine lv_iadd hx hb dX11_commentEnd_88 ?_
                    refine lv_topi (fun z_36 ez_36 => ?_)
                    have hz_36 : z_36.toInt = z_33.toInt + 1 := by rw [ez_36]; exact jb_iadd2 (rfl) ((by decide)) (by omega)
                    rw [hQ]
                    exact W.iret (v := z_36) hx hb hr (fun t ht hW => ⟨⟨z_36, (), rfl, by first | omega | rfl | assumption | decide | exact Or.inl rfl | exact Or.inr rfl | (simp only; omega), hh_5.rt (M1 := []) [] rfl ht⟩, by rw [ht]; try exact hh_5.1.1, fun q h9 hq => by rw [ht]; try exact hh_5.1.2.1 q h9 hq⟩) hh_5.1.2.2 dX11_commentEnd_89
            · skip
              have c_24' : z_23.toInt = 42 := jb_ne_n (rfl) ((by decide)) c_24
              obtain ⟨z_37, ez_37⟩ : ∃ y : Int32, y = v3_5 + 1 := ⟨_, rfl⟩
              refine lv_iinc (v := z_37) (lv' := [(3, .int z_37), (0, .ref r0), (1, .int a1), (2, .int a2), (4, .int v4_5)]) hx hb dX11_commentEnd_46 hl (k := 3) rfl (by rw [ez_37]; rfl) (by decide) rfl (fun ls hl => ?_)
              have hz_37 : z_37.toInt = v3_5.toInt + 1 := by rw [ez_37]; exact jb_iadd2 (rfl) (by decide) (by omega)
              obtain ⟨z_38, ez_38⟩ : ∃ y : Int32, y = v4_5 + 1 := ⟨_, rfl⟩
              refine lv_iinc (v := z_38) (lv' := [(4, .int z_38), (3, .int z_37), (0, .ref r0), (1, .int a1), (2, .int a2)]) hx hb dX11_commentEnd_49 hl (k := 4) rfl (by rw [ez_38]; rfl) (by decide) rfl (fun ls hl => ?_)
              have hz_38 : z_38.toInt = v4_5.toInt + 1 := by rw [ez_38]; exact jb_iadd2 (rfl) (by decide) (by omega)
              refine lv_goto (tgt := 90) hx hb dX11_commentEnd_52 (by decide) ?_
              obtain ⟨z_39, ez_39⟩ : ∃ y : Int32, y = z_38 + 1 := ⟨_, rfl⟩
              refine lv_iinc (v := z_39) (lv' := [(4, .int z_39), (3, .int z_37), (0, .ref r0), (1, .int a1), (2, .int a2)]) hx hb dX11_commentEnd_90 hl (k := 0) rfl (by rw [ez_39]; rfl) (by decide) rfl (fun ls hl => ?_)
              have hz_39 : z_39.toInt = z_38.toInt + 1 := by rw [ez_39]; exact jb_iadd2 (rfl) (by decide) (by omega)
              refine lv_goto (tgt := 18) hx hb dX11_commentEnd_93 (by decide) ?_
              exact L18 z_37 z_39 _ _ hh_5 (by first | omega | (refine ⟨?_, ?_, ?_, ?_⟩ <;> (first | omega | rfl | assumption | decide | exact Or.inl rfl | exact Or.inr rfl | (simp only; omega)))) (by omega) _ (lv_sub hl [2, 3, 4, 1, 0] rfl)
    exact L18 (((a2.toInt - (z_4 : Int32).toInt).toNat : Int) : Int).toNat.succ 1 z_4 _ _ hh_1 (by first | omega | (refine ⟨?_, ?_, ?_, ?_⟩ <;> (first | omega | rfl | assumption | decide | exact Or.inl rfl | exact Or.inr rfl | (simp only; omega)))) (by omega) _ (lv_sub hl [2, 3, 4, 1, 0] rfl)
  · skip
    have c_3' : r_2.toInt = 0 := jb_ne_n (rfl) ((by decide)) c_3
    first | (have hr_2pq := hr_2p.resolve_left (by omega); clear hr_2p) | (have hr_2pq := hr_2p.resolve_right (by omega); clear hr_2p) | try clear hr_2p
    refine lv_iconst (v := (-1)) hx hb dX11_commentEnd_9 (by decide) ?_
    rw [hQ]
    exact W.iret (v := (-1)) hx hb hr (fun t ht hW => ⟨⟨(-1), (), rfl, by first | omega | rfl | assumption | decide | exact Or.inl rfl | exact Or.inr rfl | (simp only; omega), hh_1.rt (M1 := []) [] rfl ht⟩, by rw [ht]; try exact hh_1.1.1, fun q h9 hq => by rw [ht]; try exact hh_1.1.2.1 q h9 hq⟩) hh_1.1.2.2 dX11_commentEnd_10
end
section
theorem dX10_isChain_0 : decode cX10_isChain 0 = .ok (.iconst 0, 1) := by decide +kernel
theorem dX10_isChain_1 : decode cX10_isChain 1 = .ok (.istore_n 3, 1) := by decide +kernel
theorem dX10_isChain_2 : decode cX10_isChain 2 = .ok (.iload_n 3, 1) := by decide +kernel
theorem dX10_isChain_3 : decode cX10_isChain 3 = .ok (.sipush 1500, 3) := by decide +kernel
theorem dX10_isChain_6 : decode cX10_isChain 6 = .ok (.if_icmp .ge 98, 3) := by decide +kernel
theorem dX10_isChain_9 : decode cX10_isChain 9 = .ok (.iload_n 1, 1) := by decide +kernel
theorem dX10_isChain_10 : decode cX10_isChain 10 = .ok (.getstatic 122, 3) := by decide +kernel
theorem dX10_isChain_13 : decode cX10_isChain 13 = .ok (.arraylength, 1) := by decide +kernel
theorem dX10_isChain_14 : decode cX10_isChain 14 = .ok (.if_icmp .ge 90, 3) := by decide +kernel
theorem dX10_isChain_17 : decode cX10_isChain 17 = .ok (.aload_n 0, 1) := by decide +kernel
theorem dX10_isChain_18 : decode cX10_isChain 18 = .ok (.getfield 89, 3) := by decide +kernel
theorem dX10_isChain_21 : decode cX10_isChain 21 = .ok (.istore 4, 2) := by decide +kernel
theorem dX10_isChain_23 : decode cX10_isChain 23 = .ok (.iload_n 1, 1) := by decide +kernel
theorem dX10_isChain_24 : decode cX10_isChain 24 = .ok (.getstatic 122, 3) := by decide +kernel
theorem dX10_isChain_27 : decode cX10_isChain 27 = .ok (.arraylength, 1) := by decide +kernel
theorem dX10_isChain_28 : decode cX10_isChain 28 = .ok (.iconst 1, 1) := by decide +kernel
theorem dX10_isChain_29 : decode cX10_isChain 29 = .ok (.isub, 1) := by decide +kernel
theorem dX10_isChain_30 : decode cX10_isChain 30 = .ok (.if_icmp .ne 11, 3) := by decide +kernel
theorem dX10_isChain_33 : decode cX10_isChain 33 = .ok (.aload_n 0, 1) := by decide +kernel
theorem dX10_isChain_34 : decode cX10_isChain 34 = .ok (.iload_n 2, 1) := by decide +kernel
theorem dX10_isChain_35 : decode cX10_isChain 35 = .ok (.invokevirtual 125, 3) := by decide +kernel
theorem dX10_isChain_38 : decode cX10_isChain 38 = .ok (.goto 11, 3) := by decide +kernel
theorem dX10_isChain_41 : decode cX10_isChain 41 = .ok (.aload_n 0, 1) := by decide +kernel
theorem dX10_isChain_42 : decode cX10_isChain 42 = .ok (.iload_n 1, 1) := by decide +kernel
theorem dX10_isChain_43 : decode cX10_isChain 43 = .ok (.iconst 1, 1) := by decide +kernel
theorem dX10_isChain_44 : decode cX10_isChain 44 = .ok (.iadd, 1) := by decide +kernel
theorem dX10_isChain_45 : decode cX10_isChain 45 = .ok (.iload_n 2, 1) := by decide +kernel
theorem dX10_isChain_46 : decode cX10_isChain 46 = .ok (.invokevirtual 108, 3) := by decide +kernel
theorem dX10_isChain_49 : decode cX10_isChain 49 = .ok (.istore 5, 2) := by decide +kernel
theorem dX10_isChain_51 : decode cX10_isChain 51 = .ok (.iload 5, 2) := by decide +kernel
theorem dX10_isChain_53 : decode cX10_isChain 53 = .ok (.ifCond .ne 5, 3) := by decide +kernel
theorem dX10_isChain_56 : decode cX10_isChain 56 = .ok (.iconst 0, 1) := by decide +kernel
theorem dX10_isChain_57 : decode cX10_isChain 57 = .ok (.ireturn, 1) := by decide +kernel
theorem dX10_isChain_58 : decode cX10_isChain 58 = .ok (.aload_n 0, 1) := by decide +kernel
theorem dX10_isChain_59 : decode cX10_isChain 59 = .ok (.invokevirtual 115, 3) := by decide +kernel
theorem dX10_isChain_62 : decode cX10_isChain 62 = .ok (.getstatic 122, 3) := by decide +kernel
theorem dX10_isChain_65 : decode cX10_isChain 65 = .ok (.iload_n 1, 1) := by decide +kernel
theorem dX10_isChain_66 : decode cX10_isChain 66 = .ok (.iaload, 1) := by decide +kernel
theorem dX10_isChain_67 : decode cX10_isChain 67 = .ok (.if_icmp .eq 5, 3) := by decide +kernel
theorem dX10_isChain_70 : decode cX10_isChain 70 = .ok (.iconst 1, 1) := by decide +kernel
theorem dX10_isChain_71 : decode cX10_isChain 71 = .ok (.ireturn, 1) := by decide +kernel
theorem dX10_isChain_72 : decode cX10_isChain 72 = .ok (.aload_n 0, 1) := by decide +kernel
theorem dX10_isChain_73 : decode cX10_isChain 73 = .ok (.dup, 1) := by decide +kernel
theorem dX10_isChain_74 : decode cX10_isChain 74 = .ok (.getfield 83, 3) := by decide +kernel
theorem dX10_isChain_77 : decode cX10_isChain 77 = .ok (.iconst 1, 1) := by decide +kernel
theorem dX10_isChain_78 : decode cX10_isChain 78 = .ok (.iadd, 1) := by decide +kernel
theorem dX10_isChain_79 : decode cX10_isChain 79 = .ok (.putfield 83, 3) := by decide +kernel
theorem dX10_isChain_82 : decode cX10_isChain 82 = .ok (.aload_n 0, 1) := by decide +kernel
theorem dX10_isChain_83 : decode cX10_isChain 83 = .ok (.iload 4, 2) := by decide +kernel
theorem dX10_isChain_85 : decode cX10_isChain 85 = .ok (.getstatic 128, 3) := by decide +kernel
theorem dX10_isChain_88 : decode cX10_isChain 88 = .ok (.iload_n 1, 1) := by decide +kernel
theorem dX10_isChain_89 : decode cX10_isChain 89 = .ok (.iaload, 1) := by decide +kernel
theorem dX10_isChain_90 : decode cX10_isChain 90 = .ok (.invokevirtual 131, 3) := by decide +kernel
theorem dX10_isChain_93 : decode cX10_isChain 93 = .ok (.ifCond .ne 5, 3) := by decide +kernel
theorem dX10_isChain_96 : decode cX10_isChain 96 = .ok (.iconst 0, 1) := by decide +kernel
theorem dX10_isChain_97 : decode cX10_isChain 97 = .ok (.ireturn, 1) := by decide +kernel
theorem dX10_isChain_98 : decode cX10_isChain 98 = .ok (.iinc 3 1, 3) := by decide +kernel
theorem dX10_isChain_101 : decode cX10_isChain 101 = .ok (.goto (-99), 3) := by decide +kernel
theorem dX10_isChain_104 : decode cX10_isChain 104 = .ok (.iconst 0, 1) := by decide +kernel
theorem dX10_isChain_105 : decode cX10_isChain 105 = .ok (.ireturn, 1) := by decide +kernel
theorem dX10_isOne_0 : decode cX10_isOne 0 = .ok (.aload_n 0, 1) := by decide +kernel
theorem dX10_isOne_1 : decode cX10_isOne 1 = .ok (.invokevirtual 115, 3) := by decide +kernel
theorem dX10_isOne_4 : decode cX10_isOne 4 = .ok (.istore_n 2, 1) := by decide +kernel
theorem dX10_isOne_5 : decode cX10_isOne 5 = .ok (.aload_n 0, 1) := by decide +kernel
theorem dX10_isOne_6 : decode cX10_isOne 6 = .ok (.invokevirtual 119, 3) := by decide +kernel
theorem dX10_isOne_9 : decode cX10_isOne 9 = .ok (.istore_n 3, 1) := by decide +kernel
theorem dX10_isOne_10 : decode cX10_isOne 10 = .ok (.iload_n 2, 1) := by decide +kernel
theorem dX10_isOne_11 : decode cX10_isOne 11 = .ok (.bipush 126, 2) := by decide +kernel
theorem dX10_isOne_13 : decode cX10_isOne 13 = .ok (.if_icmp .ne 51, 3) := by decide +kernel
theorem dX10_isOne_16 : decode cX10_isOne 16 = .ok (.aload_n 0, 1) := by decide +kernel
theorem dX10_isOne_17 : decode cX10_isOne 17 = .ok (.dup, 1) := by decide +kernel
theorem dX10_isOne_18 : decode cX10_isOne 18 = .ok (.getfield 83, 3) := by decide +kernel
theorem dX10_isOne_21 : decode cX10_isOne 21 = .ok (.iconst 1, 1) := by decide +kernel
theorem dX10_isOne_22 : decode cX10_isOne 22 = .ok (.iadd, 1) := by decide +kernel
theorem dX10_isOne_23 : decode cX10_isOne 23 = .ok (.putfield 83, 3) := by decide +kernel
theorem dX10_isOne_26 : decode cX10_isOne 26 = .ok (.iload_n 1, 1) := by decide +kernel
theorem dX10_isOne_27 : decode cX10_isOne 27 = .ok (.bipush 12, 2) := by decide +kernel
theorem dX10_isOne_29 : decode cX10_isOne 29 = .ok (.if_icmp .ge 33, 3) := by decide +kernel
theorem dX10_isOne_32 : decode cX10_isOne 32 = .ok (.aload_n 0, 1) := by decide +kernel
theorem dX10_isOne_33 : decode cX10_isOne 33 = .ok (.iconst 1, 1) := by decide +kernel
theorem dX10_isOne_34 : decode cX10_isOne 34 = .ok (.invokevirtual 134, 3) := by decide +kernel
theorem dX10_isOne_37 : decode cX10_isOne 37 = .ok (.ifCond .eq 25, 3) := by decide +kernel
theorem dX10_isOne_40 : decode cX10_isOne 40 = .ok (.aload_n 0, 1) := by decide +kernel
theorem dX10_isOne_41 : decode cX10_isOne 41 = .ok (.iload_n 1, 1) := by decide +kernel
theorem dX10_isOne_42 : decode cX10_isOne 42 = .ok (.iconst 1, 1) := by decide +kernel
theorem dX10_isOne_43 : decode cX10_isOne 43 = .ok (.iadd, 1) := by decide +kernel
theorem dX10_isOne_44 : decode cX10_isOne 44 = .ok (.invokevirtual 125, 3) := by decide +kernel
theorem dX10_isOne_47 : decode cX10_isOne 47 = .ok (.ifCond .eq 15, 3) := by decide +kernel
theorem dX10_isOne_50 : decode cX10_isOne 50 = .ok (.aload_n 0, 1) := by decide +kernel
theorem dX10_isOne_51 : decode cX10_isOne 51 = .ok (.iconst 0, 1) := by decide +kernel
theorem dX10_isOne_52 : decode cX10_isOne 52 = .ok (.invokevirtual 134, 3) := by decide +kernel
theorem dX10_isOne_55 : decode cX10_isOne 55 = .ok (.ifCond .eq 7, 3) := by decide +kernel
theorem dX10_isOne_58 : decode cX10_isOne 58 = .ok (.iconst 1, 1) := by decide +kernel
theorem dX10_isOne_59 : decode cX10_isOne 59 = .ok (.goto 4, 3) := by decide +kernel
theorem dX10_isOne_62 : decode cX10_isOne 62 = .ok (.iconst 0, 1) := by decide +kernel
theorem dX10_isOne_63 : decode cX10_isOne 63 = .ok (.ireturn, 1) := by decide +kernel
theorem dX10_isOne_64 : decode cX10_isOne 64 = .ok (.iload_n 2, 1) := by decide +kernel
theorem dX10_isOne_65 : decode cX10_isOne 65 = .ok (.bipush 40, 2) := by decide +kernel
theorem dX10_isOne_67 : decode cX10_isOne 67 = .ok (.if_icmp .ne 45, 3) := by decide +kernel
theorem dX10_isOne_70 : decode cX10_isOne 70 = .ok (.aload_n 0, 1) := by decide +kernel
theorem dX10_isOne_71 : decode cX10_isOne 71 = .ok (.dup, 1) := by decide +kernel
theorem dX10_isOne_72 : decode cX10_isOne 72 = .ok (.getfield 83, 3) := by decide +kernel
theorem dX10_isOne_75 : decode cX10_isOne 75 = .ok (.iconst 1, 1) := by decide +kernel
theorem dX10_isOne_76 : decode cX10_isOne 76 = .ok (.iadd, 1) := by decide +kernel
theorem dX10_isOne_77 : decode cX10_isOne 77 = .ok (.putfield 83, 3) := by decide +kernel
theorem dX10_isOne_80 : decode cX10_isOne 80 = .ok (.iload_n 1, 1) := by decide +kernel
theorem dX10_isOne_81 : decode cX10_isOne 81 = .ok (.bipush 12, 2) := by decide +kernel
theorem dX10_isOne_83 : decode cX10_isOne 83 = .ok (.if_icmp .ge 27, 3) := by decide +kernel
theorem dX10_isOne_86 : decode cX10_isOne 86 = .ok (.aload_n 0, 1) := by decide +kernel
theorem dX10_isOne_87 : decode cX10_isOne 87 = .ok (.iconst 0, 1) := by decide +kernel
theorem dX10_isOne_88 : decode cX10_isOne 88 = .ok (.iload_n 1, 1) := by decide +kernel
theorem dX10_isOne_89 : decode cX10_isOne 89 = .ok (.iconst 1, 1) := by decide +kernel
theorem dX10_isOne_90 : decode cX10_isOne 90 = .ok (.iadd, 1) := by decide +kernel
theorem dX10_isOne_91 : decode cX10_isOne 91 = .ok (.invokevirtual 108, 3) := by decide +kernel
theorem dX10_isOne_94 : decode cX10_isOne 94 = .ok (.ifCond .eq 16, 3) := by decide +kernel
theorem dX10_isOne_97 : decode cX10_isOne 97 = .ok (.aload_n 0, 1) := by decide +kernel
theorem dX10_isOne_98 : decode cX10_isOne 98 = .ok (.bipush 41, 2) := by decide +kernel
theorem dX10_isOne_100 : decode cX10_isOne 100 = .ok (.invokevirtual 105, 3) := by decide +kernel
theorem dX10_isOne_103 : decode cX10_isOne 103 = .ok (.ifCond .eq 7, 3) := by decide +kernel
theorem dX10_isOne_106 : decode cX10_isOne 106 = .ok (.iconst 1, 1) := by decide +kernel
theorem dX10_isOne_107 : decode cX10_isOne 107 = .ok (.goto 4, 3) := by decide +kernel
theorem dX10_isOne_110 : decode cX10_isOne 110 = .ok (.iconst 0, 1) := by decide +kernel
theorem dX10_isOne_111 : decode cX10_isOne 111 = .ok (.ireturn, 1) := by decide +kernel
theorem dX10_isOne_112 : decode cX10_isOne 112 = .ok (.iload_n 3, 1) := by decide +kernel
theorem dX10_isOne_113 : decode cX10_isOne 113 = .ok (.ifCond .eq 8, 3) := by decide +kernel
theorem dX10_isOne_116 : decode cX10_isOne 116 = .ok (.iload_n 3, 1) := by decide +kernel
theorem dX10_isOne_117 : decode cX10_isOne 117 = .ok (.iconst 1, 1) := by decide +kernel
theorem dX10_isOne_118 : decode cX10_isOne 118 = .ok (.if_icmp .ne 94, 3) := by decide +kernel
theorem dX10_isOne_121 : decode cX10_isOne 121 = .ok (.aload_n 0, 1) := by decide +kernel
theorem dX10_isOne_122 : decode cX10_isOne 122 = .ok (.dup, 1) := by decide +kernel
theorem dX10_isOne_123 : decode cX10_isOne 123 = .ok (.getfield 83, 3) := by decide +kernel
theorem dX10_isOne_126 : decode cX10_isOne 126 = .ok (.iconst 1, 1) := by decide +kernel
theorem dX10_isOne_127 : decode cX10_isOne 127 = .ok (.iadd, 1) := by decide +kernel
theorem dX10_isOne_128 : decode cX10_isOne 128 = .ok (.putfield 83, 3) := by decide +kernel
theorem dX10_isOne_131 : decode cX10_isOne 131 = .ok (.aload_n 0, 1) := by decide +kernel
theorem dX10_isOne_132 : decode cX10_isOne 132 = .ok (.invokevirtual 119, 3) := by decide +kernel
theorem dX10_isOne_135 : decode cX10_isOne 135 = .ok (.istore 4, 2) := by decide +kernel
theorem dX10_isOne_137 : decode cX10_isOne 137 = .ok (.iload_n 3, 1) := by decide +kernel
theorem dX10_isOne_138 : decode cX10_isOne 138 = .ok (.ifCond .ne 7, 3) := by decide +kernel
theorem dX10_isOne_141 : decode cX10_isOne 141 = .ok (.iconst 5, 1) := by decide +kernel
theorem dX10_isOne_142 : decode cX10_isOne 142 = .ok (.goto 5, 3) := by decide +kernel
theorem dX10_isOne_145 : decode cX10_isOne 145 = .ok (.bipush 6, 2) := by decide +kernel
theorem dX10_isOne_147 : decode cX10_isOne 147 = .ok (.iload 4, 2) := by decide +kernel
theorem dX10_isOne_149 : decode cX10_isOne 149 = .ok (.bipush 15, 2) := by decide +kernel
theorem dX10_isOne_151 : decode cX10_isOne 151 = .ok (.ishl, 1) := by decide +kernel
theorem dX10_isOne_152 : decode cX10_isOne 152 = .ok (.ior, 1) := by decide +kernel
theorem dX10_isOne_153 : decode cX10_isOne 153 = .ok (.istore 5, 2) := by decide +kernel
theorem dX10_isOne_155 : decode cX10_isOne 155 = .ok (.aload_n 0, 1) := by decide +kernel
theorem dX10_isOne_156 : decode cX10_isOne 156 = .ok (.dup, 1) := by decide +kernel
theorem dX10_isOne_157 : decode cX10_isOne 157 = .ok (.getfield 83, 3) := by decide +kernel
theorem dX10_isOne_160 : decode cX10_isOne 160 = .ok (.iconst 1, 1) := by decide +kernel
theorem dX10_isOne_161 : decode cX10_isOne 161 = .ok (.iadd, 1) := by decide +kernel
theorem dX10_isOne_162 : decode cX10_isOne 162 = .ok (.putfield 83, 3) := by decide +kernel
theorem dX10_isOne_165 : decode cX10_isOne 165 = .ok (.iload_n 1, 1) := by decide +kernel
theorem dX10_isOne_166 : decode cX10_isOne 166 = .ok (.bipush 12, 2) := by decide +kernel
theorem dX10_isOne_168 : decode cX10_isOne 168 = .ok (.if_icmp .ge 42, 3) := by decide +kernel
theorem dX10_isOne_171 : decode cX10_isOne 171 = .ok (.iload 4, 2) := by decide +kernel
theorem dX10_isOne_173 : decode cX10_isOne 173 = .ok (.iconst 2, 1) := by decide +kernel
theorem dX10_isOne_174 : decode cX10_isOne 174 = .ok (.if_icmp .le 36, 3) := by decide +kernel
theorem dX10_isOne_177 : decode cX10_isOne 177 = .ok (.aload_n 0, 1) := by decide +kernel
theorem dX10_isOne_178 : decode cX10_isOne 178 = .ok (.bipush 44, 2) := by decide +kernel
theorem dX10_isOne_180 : decode cX10_isOne 180 = .ok (.invokevirtual 105, 3) := by decide +kernel
theorem dX10_isOne_183 : decode cX10_isOne 183 = .ok (.ifCond .eq 27, 3) := by decide +kernel
theorem dX10_isOne_186 : decode cX10_isOne 186 = .ok (.aload_n 0, 1) := by decide +kernel
theorem dX10_isOne_187 : decode cX10_isOne 187 = .ok (.iload 5, 2) := by decide +kernel
theorem dX10_isOne_189 : decode cX10_isOne 189 = .ok (.invokevirtual 134, 3) := by decide +kernel
theorem dX10_isOne_192 : decode cX10_isOne 192 = .ok (.ifCond .eq 18, 3) := by decide +kernel
theorem dX10_isOne_195 : decode cX10_isOne 195 = .ok (.aload_n 0, 1) := by decide +kernel
theorem dX10_isOne_196 : decode cX10_isOne 196 = .ok (.iconst 0, 1) := by decide +kernel
theorem dX10_isOne_197 : decode cX10_isOne 197 = .ok (.iload_n 1, 1) := by decide +kernel
theorem dX10_isOne_198 : decode cX10_isOne 198 = .ok (.iconst 1, 1) := by decide +kernel
theorem dX10_isOne_199 : decode cX10_isOne 199 = .ok (.iadd, 1) := by decide +kernel
theorem dX10_isOne_200 : decode cX10_isOne 200 = .ok (.invokevirtual 108, 3) := by decide +kernel
theorem dX10_isOne_203 : decode cX10_isOne 203 = .ok (.ifCond .eq 7, 3) := by decide +kernel
theorem dX10_isOne_206 : decode cX10_isOne 206 = .ok (.iconst 1, 1) := by decide +kernel
theorem dX10_isOne_207 : decode cX10_isOne 207 = .ok (.goto 4, 3) := by decide +kernel
theorem dX10_isOne_210 : decode cX10_isOne 210 = .ok (.iconst 0, 1) := by decide +kernel
theorem dX10_isOne_211 : decode cX10_isOne 211 = .ok (.ireturn, 1) := by decide +kernel
theorem dX10_isOne_212 : decode cX10_isOne 212 = .ok (.iload_n 3, 1) := by decide +kernel
theorem dX10_isOne_213 : decode cX10_isOne 213 = .ok (.iconst 2, 1) := by decide +kernel
theorem dX10_isOne_214 : decode cX10_isOne 214 = .ok (.if_icmp .ne 19, 3) := by decide +kernel
theorem dX10_isOne_217 : decode cX10_isOne 217 = .ok (.aload_n 0, 1) := by decide +kernel
theorem dX10_isOne_218 : decode cX10_isOne 218 = .ok (.dup, 1) := by decide +kernel
theorem dX10_isOne_219 : decode cX10_isOne 219 = .ok (.getfield 83, 3) := by decide +kernel
theorem dX10_isOne_222 : decode cX10_isOne 222 = .ok (.iconst 1, 1) := by decide +kernel
theorem dX10_isOne_223 : decode cX10_isOne 223 = .ok (.iadd, 1) := by decide +kernel
theorem dX10_isOne_224 : decode cX10_isOne 224 = .ok (.putfield 83, 3) := by decide +kernel
theorem dX10_isOne_227 : decode cX10_isOne 227 = .ok (.aload_n 0, 1) := by decide +kernel
theorem dX10_isOne_228 : decode cX10_isOne 228 = .ok (.iconst 0, 1) := by decide +kernel
theorem dX10_isOne_229 : decode cX10_isOne 229 = .ok (.invokevirtual 134, 3) := by decide +kernel
theorem dX10_isOne_232 : decode cX10_isOne 232 = .ok (.ireturn, 1) := by decide +kernel
theorem dX10_isOne_233 : decode cX10_isOne 233 = .ok (.aload_n 0, 1) := by decide +kernel
theorem dX10_isOne_234 : decode cX10_isOne 234 = .ok (.getfield 89, 3) := by decide +kernel
theorem dX10_isOne_237 : decode cX10_isOne 237 = .ok (.istore 4, 2) := by decide +kernel
theorem dX10_isOne_239 : decode cX10_isOne 239 = .ok (.aload_n 0, 1) := by decide +kernel
theorem dX10_isOne_240 : decode cX10_isOne 240 = .ok (.bipush 7, 2) := by decide +kernel
theorem dX10_isOne_242 : decode cX10_isOne 242 = .ok (.iload_n 1, 1) := by decide +kernel
theorem dX10_isOne_243 : decode cX10_isOne 243 = .ok (.invokevirtual 112, 3) := by decide +kernel
theorem dX10_isOne_246 : decode cX10_isOne 246 = .ok (.ifCond .ne 5, 3) := by decide +kernel
theorem dX10_isOne_249 : decode cX10_isOne 249 = .ok (.iconst 0, 1) := by decide +kernel
theorem dX10_isOne_250 : decode cX10_isOne 250 = .ok (.ireturn, 1) := by decide +kernel
theorem dX10_isOne_251 : decode cX10_isOne 251 = .ok (.aload_n 0, 1) := by decide +kernel
theorem dX10_isOne_252 : decode cX10_isOne 252 = .ok (.invokevirtual 115, 3) := by decide +kernel
theorem dX10_isOne_255 : decode cX10_isOne 255 = .ok (.bipush 61, 2) := by decide +kernel
theorem dX10_isOne_257 : decode cX10_isOne 257 = .ok (.if_icmp .eq 5, 3) := by decide +kernel
theorem dX10_isOne_260 : decode cX10_isOne 260 = .ok (.iconst 1, 1) := by decide +kernel
theorem dX10_isOne_261 : decode cX10_isOne 261 = .ok (.ireturn, 1) := by decide +kernel
theorem dX10_isOne_262 : decode cX10_isOne 262 = .ok (.aload_n 0, 1) := by decide +kernel
theorem dX10_isOne_263 : decode cX10_isOne 263 = .ok (.dup, 1) := by decide +kernel
theorem dX10_isOne_264 : decode cX10_isOne 264 = .ok (.getfield 83, 3) := by decide +kernel
theorem dX10_isOne_267 : decode cX10_isOne 267 = .ok (.iconst 1, 1) := by decide +kernel
theorem dX10_isOne_268 : decode cX10_isOne 268 = .ok (.iadd, 1) := by decide +kernel
theorem dX10_isOne_269 : decode cX10_isOne 269 = .ok (.putfield 83, 3) := by decide +kernel
theorem dX10_isOne_272 : decode cX10_isOne 272 = .ok (.aload_n 0, 1) := by decide +kernel
theorem dX10_isOne_273 : decode cX10_isOne 273 = .ok (.getfield 21, 3) := by decide +kernel
theorem dX10_isOne_276 : decode cX10_isOne 276 = .ok (.iload 4, 2) := by decide +kernel
theorem dX10_isOne_278 : decode cX10_isOne 278 = .ok (.dup2, 1) := by decide +kernel
theorem dX10_isOne_279 : decode cX10_isOne 279 = .ok (.iaload, 1) := by decide +kernel
theorem dX10_isOne_280 : decode cX10_isOne 280 = .ok (.iconst 1, 1) := by decide +kernel
theorem dX10_isOne_281 : decode cX10_isOne 281 = .ok (.iadd, 1) := by decide +kernel
theorem dX10_isOne_282 : decode cX10_isOne 282 = .ok (.iastore, 1) := by decide +kernel
theorem dX10_isOne_283 : decode cX10_isOne 283 = .ok (.aload_n 0, 1) := by decide +kernel
theorem dX10_isOne_284 : decode cX10_isOne 284 = .ok (.iload 4, 2) := by decide +kernel
theorem dX10_isOne_286 : decode cX10_isOne 286 = .ok (.iconst 4, 1) := by decide +kernel
theorem dX10_isOne_287 : decode cX10_isOne 287 = .ok (.invokevirtual 131, 3) := by decide +kernel
theorem dX10_isOne_290 : decode cX10_isOne 290 = .ok (.ifCond .eq 17, 3) := by decide +kernel
theorem dX10_isOne_293 : decode cX10_isOne 293 = .ok (.aload_n 0, 1) := by decide +kernel
theorem dX10_isOne_294 : decode cX10_isOne 294 = .ok (.bipush 8, 2) := by decide +kernel
theorem dX10_isOne_296 : decode cX10_isOne 296 = .ok (.iload_n 1, 1) := by decide +kernel
theorem dX10_isOne_297 : decode cX10_isOne 297 = .ok (.invokevirtual 112, 3) := by decide +kernel
theorem dX10_isOne_300 : decode cX10_isOne 300 = .ok (.ifCond .eq 7, 3) := by decide +kernel
theorem dX10_isOne_303 : decode cX10_isOne 303 = .ok (.iconst 1, 1) := by decide +kernel
theorem dX10_isOne_304 : decode cX10_isOne 304 = .ok (.goto 4, 3) := by decide +kernel
theorem dX10_isOne_307 : decode cX10_isOne 307 = .ok (.iconst 0, 1) := by decide +kernel
theorem dX10_isOne_308 : decode cX10_isOne 308 = .ok (.ireturn, 1) := by decide +kernel
theorem dX10_isTerm_0 : decode cX10_isTerm 0 = .ok (.aload_n 0, 1) := by decide +kernel
theorem dX10_isTerm_1 : decode cX10_isTerm 1 = .ok (.getfield 89, 3) := by decide +kernel
theorem dX10_isTerm_4 : decode cX10_isTerm 4 = .ok (.istore_n 3, 1) := by decide +kernel
theorem dX10_isTerm_5 : decode cX10_isTerm 5 = .ok (.aload_n 0, 1) := by decide +kernel
theorem dX10_isTerm_6 : decode cX10_isTerm 6 = .ok (.invokevirtual 119, 3) := by decide +kernel
theorem dX10_isTerm_9 : decode cX10_isTerm 9 = .ok (.istore 4, 2) := by decide +kernel
theorem dX10_isTerm_11 : decode cX10_isTerm 11 = .ok (.aload_n 0, 1) := by decide +kernel
theorem dX10_isTerm_12 : decode cX10_isTerm 12 = .ok (.dup, 1) := by decide +kernel
theorem dX10_isTerm_13 : decode cX10_isTerm 13 = .ok (.getfield 83, 3) := by decide +kernel
theorem dX10_isTerm_16 : decode cX10_isTerm 16 = .ok (.iconst 1, 1) := by decide +kernel
theorem dX10_isTerm_17 : decode cX10_isTerm 17 = .ok (.iadd, 1) := by decide +kernel
theorem dX10_isTerm_18 : decode cX10_isTerm 18 = .ok (.putfield 83, 3) := by decide +kernel
theorem dX10_isTerm_21 : decode cX10_isTerm 21 = .ok (.iload 4, 2) := by decide +kernel
theorem dX10_isTerm_23 : decode cX10_isTerm 23 = .ok (.iconst 2, 1) := by decide +kernel
theorem dX10_isTerm_24 : decode cX10_isTerm 24 = .ok (.if_icmp .le 17, 3) := by decide +kernel
theorem dX10_isTerm_27 : decode cX10_isTerm 27 = .ok (.aload_n 0, 1) := by decide +kernel
theorem dX10_isTerm_28 : decode cX10_isTerm 28 = .ok (.iload_n 1, 1) := by decide +kernel
theorem dX10_isTerm_29 : decode cX10_isTerm 29 = .ok (.iload 4, 2) := by decide +kernel
theorem dX10_isTerm_31 : decode cX10_isTerm 31 = .ok (.bipush 15, 2) := by decide +kernel
theorem dX10_isTerm_33 : decode cX10_isTerm 33 = .ok (.ishl, 1) := by decide +kernel
theorem dX10_isTerm_34 : decode cX10_isTerm 34 = .ok (.ior, 1) := by decide +kernel
theorem dX10_isTerm_35 : decode cX10_isTerm 35 = .ok (.invokevirtual 134, 3) := by decide +kernel
theorem dX10_isTerm_38 : decode cX10_isTerm 38 = .ok (.ifCond .ne 5, 3) := by decide +kernel
theorem dX10_isTerm_41 : decode cX10_isTerm 41 = .ok (.iconst 0, 1) := by decide +kernel
theorem dX10_isTerm_42 : decode cX10_isTerm 42 = .ok (.ireturn, 1) := by decide +kernel
theorem dX10_isTerm_43 : decode cX10_isTerm 43 = .ok (.aload_n 0, 1) := by decide +kernel
theorem dX10_isTerm_44 : decode cX10_isTerm 44 = .ok (.invokevirtual 115, 3) := by decide +kernel
theorem dX10_isTerm_47 : decode cX10_isTerm 47 = .ok (.bipush 40, 2) := by decide +kernel
theorem dX10_isTerm_49 : decode cX10_isTerm 49 = .ok (.if_icmp .eq 5, 3) := by decide +kernel
theorem dX10_isTerm_52 : decode cX10_isTerm 52 = .ok (.iconst 1, 1) := by decide +kernel
theorem dX10_isTerm_53 : decode cX10_isTerm 53 = .ok (.ireturn, 1) := by decide +kernel
theorem dX10_isTerm_54 : decode cX10_isTerm 54 = .ok (.iload_n 2, 1) := by decide +kernel
theorem dX10_isTerm_55 : decode cX10_isTerm 55 = .ok (.bipush 12, 2) := by decide +kernel
theorem dX10_isTerm_57 : decode cX10_isTerm 57 = .ok (.if_icmp .lt 5, 3) := by decide +kernel
theorem dX10_isTerm_60 : decode cX10_isTerm 60 = .ok (.iconst 0, 1) := by decide +kernel
theorem dX10_isTerm_61 : decode cX10_isTerm 61 = .ok (.ireturn, 1) := by decide +kernel
theorem dX10_isTerm_62 : decode cX10_isTerm 62 = .ok (.iconst 1, 1) := by decide +kernel
theorem dX10_isTerm_63 : decode cX10_isTerm 63 = .ok (.istore 5, 2) := by decide +kernel
theorem dX10_isTerm_65 : decode cX10_isTerm 65 = .ok (.iload 5, 2) := by decide +kernel
theorem dX10_isTerm_67 : decode cX10_isTerm 67 = .ok (.sipush 2047, 3) := by decide +kernel
theorem dX10_isTerm_70 : decode cX10_isTerm 70 = .ok (.if_icmp .gt 62, 3) := by decide +kernel
theorem dX10_isTerm_73 : decode cX10_isTerm 73 = .ok (.aload_n 0, 1) := by decide +kernel
theorem dX10_isTerm_74 : decode cX10_isTerm 74 = .ok (.dup, 1) := by decide +kernel
theorem dX10_isTerm_75 : decode cX10_isTerm 75 = .ok (.getfield 83, 3) := by decide +kernel
theorem dX10_isTerm_78 : decode cX10_isTerm 78 = .ok (.iconst 1, 1) := by decide +kernel
theorem dX10_isTerm_79 : decode cX10_isTerm 79 = .ok (.iadd, 1) := by decide +kernel
theorem dX10_isTerm_80 : decode cX10_isTerm 80 = .ok (.putfield 83, 3) := by decide +kernel
theorem dX10_isTerm_83 : decode cX10_isTerm 83 = .ok (.aload_n 0, 1) := by decide +kernel
theorem dX10_isTerm_84 : decode cX10_isTerm 84 = .ok (.bipush 8, 2) := by decide +kernel
theorem dX10_isTerm_86 : decode cX10_isTerm 86 = .ok (.iload_n 2, 1) := by decide +kernel
theorem dX10_isTerm_87 : decode cX10_isTerm 87 = .ok (.iconst 1, 1) := by decide +kernel
theorem dX10_isTerm_88 : decode cX10_isTerm 88 = .ok (.iadd, 1) := by decide +kernel
theorem dX10_isTerm_89 : decode cX10_isTerm 89 = .ok (.invokevirtual 112, 3) := by decide +kernel
theorem dX10_isTerm_92 : decode cX10_isTerm 92 = .ok (.ifCond .ne 5, 3) := by decide +kernel
theorem dX10_isTerm_95 : decode cX10_isTerm 95 = .ok (.iconst 0, 1) := by decide +kernel
theorem dX10_isTerm_96 : decode cX10_isTerm 96 = .ok (.ireturn, 1) := by decide +kernel
theorem dX10_isTerm_97 : decode cX10_isTerm 97 = .ok (.aload_n 0, 1) := by decide +kernel
theorem dX10_isTerm_98 : decode cX10_isTerm 98 = .ok (.invokevirtual 115, 3) := by decide +kernel
theorem dX10_isTerm_101 : decode cX10_isTerm 101 = .ok (.bipush 44, 2) := by decide +kernel
theorem dX10_isTerm_103 : decode cX10_isTerm 103 = .ok (.if_icmp .eq 23, 3) := by decide +kernel
theorem dX10_isTerm_106 : decode cX10_isTerm 106 = .ok (.aload_n 0, 1) := by decide +kernel
theorem dX10_isTerm_107 : decode cX10_isTerm 107 = .ok (.getfield 21, 3) := by decide +kernel
theorem dX10_isTerm_110 : decode cX10_isTerm 110 = .ok (.iload_n 3, 1) := by decide +kernel
theorem dX10_isTerm_111 : decode cX10_isTerm 111 = .ok (.dup2, 1) := by decide +kernel
theorem dX10_isTerm_112 : decode cX10_isTerm 112 = .ok (.iaload, 1) := by decide +kernel
theorem dX10_isTerm_113 : decode cX10_isTerm 113 = .ok (.iload 5, 2) := by decide +kernel
theorem dX10_isTerm_115 : decode cX10_isTerm 115 = .ok (.iconst 4, 1) := by decide +kernel
theorem dX10_isTerm_116 : decode cX10_isTerm 116 = .ok (.ishl, 1) := by decide +kernel
theorem dX10_isTerm_117 : decode cX10_isTerm 117 = .ok (.ior, 1) := by decide +kernel
theorem dX10_isTerm_118 : decode cX10_isTerm 118 = .ok (.iastore, 1) := by decide +kernel
theorem dX10_isTerm_119 : decode cX10_isTerm 119 = .ok (.aload_n 0, 1) := by decide +kernel
theorem dX10_isTerm_120 : decode cX10_isTerm 120 = .ok (.bipush 41, 2) := by decide +kernel
theorem dX10_isTerm_122 : decode cX10_isTerm 122 = .ok (.invokevirtual 105, 3) := by decide +kernel
theorem dX10_isTerm_125 : decode cX10_isTerm 125 = .ok (.ireturn, 1) := by decide +kernel
theorem dX10_isTerm_126 : decode cX10_isTerm 126 = .ok (.iinc 5 1, 3) := by decide +kernel
theorem dX10_isTerm_129 : decode cX10_isTerm 129 = .ok (.goto (-64), 3) := by decide +kernel
theorem dX10_isTerm_132 : decode cX10_isTerm 132 = .ok (.iconst 0, 1) := by decide +kernel
theorem dX10_isTerm_133 : decode cX10_isTerm 133 = .ok (.ireturn, 1) := by decide +kernel
end
section
theorem dX10_isSentence_0 : decode cX10_isSentence 0 = .ok (.aload_n 0, 1) := by decide +kernel
theorem dX10_isSentence_1 : decode cX10_isSentence 1 = .ok (.iconst 1, 1) := by decide +kernel
theorem dX10_isSentence_2 : decode cX10_isSentence 2 = .ok (.putfield 83, 3) := by decide +kernel
theorem dX10_isSentence_5 : decode cX10_isSentence 5 = .ok (.aload_n 0, 1) := by decide +kernel
theorem dX10_isSentence_6 : decode cX10_isSentence 6 = .ok (.iconst 0, 1) := by decide +kernel
theorem dX10_isSentence_7 : decode cX10_isSentence 7 = .ok (.putfield 86, 3) := by decide +kernel
theorem dX10_isSentence_10 : decode cX10_isSentence 10 = .ok (.aload_n 0, 1) := by decide +kernel
theorem dX10_isSentence_11 : decode cX10_isSentence 11 = .ok (.iconst 0, 1) := by decide +kernel
theorem dX10_isSentence_12 : decode cX10_isSentence 12 = .ok (.putfield 89, 3) := by decide +kernel
theorem dX10_isSentence_15 : decode cX10_isSentence 15 = .ok (.aload_n 0, 1) := by decide +kernel
theorem dX10_isSentence_16 : decode cX10_isSentence 16 = .ok (.iconst 0, 1) := by decide +kernel
theorem dX10_isSentence_17 : decode cX10_isSentence 17 = .ok (.putfield 92, 3) := by decide +kernel
theorem dX10_isSentence_20 : decode cX10_isSentence 20 = .ok (.aload_n 0, 1) := by decide +kernel
theorem dX10_isSentence_21 : decode cX10_isSentence 21 = .ok (.aload_n 0, 1) := by decide +kernel
theorem dX10_isSentence_22 : decode cX10_isSentence 22 = .ok (.getfield 28, 3) := by decide +kernel
theorem dX10_isSentence_25 : decode cX10_isSentence 25 = .ok (.ifCond .le 23, 3) := by decide +kernel
theorem dX10_isSentence_28 : decode cX10_isSentence 28 = .ok (.aload_n 0, 1) := by decide +kernel
theorem dX10_isSentence_29 : decode cX10_isSentence 29 = .ok (.getfield 9, 3) := by decide +kernel
theorem dX10_isSentence_32 : decode cX10_isSentence 32 = .ok (.iconst 0, 1) := by decide +kernel
theorem dX10_isSentence_33 : decode cX10_isSentence 33 = .ok (.iaload, 1) := by decide +kernel
theorem dX10_isSentence_34 : decode cX10_isSentence 34 = .ok (.bipush 110, 2) := by decide +kernel
theorem dX10_isSentence_36 : decode cX10_isSentence 36 = .ok (.if_icmp .ne 12, 3) := by decide +kernel
theorem dX10_isSentence_39 : decode cX10_isSentence 39 = .ok (.aload_n 0, 1) := by decide +kernel
theorem dX10_isSentence_40 : decode cX10_isSentence 40 = .ok (.getfield 15, 3) := by decide +kernel
theorem dX10_isSentence_43 : decode cX10_isSentence 43 = .ok (.iconst 0, 1) := by decide +kernel
theorem dX10_isSentence_44 : decode cX10_isSentence 44 = .ok (.iaload, 1) := by decide +kernel
theorem dX10_isSentence_45 : decode cX10_isSentence 45 = .ok (.goto 4, 3) := by decide +kernel
theorem dX10_isSentence_48 : decode cX10_isSentence 48 = .ok (.iconst (-1), 1) := by decide +kernel
theorem dX10_isSentence_49 : decode cX10_isSentence 49 = .ok (.putfield 95, 3) := by decide +kernel
theorem dX10_isSentence_52 : decode cX10_isSentence 52 = .ok (.aload_n 0, 1) := by decide +kernel
theorem dX10_isSentence_53 : decode cX10_isSentence 53 = .ok (.getfield 95, 3) := by decide +kernel
theorem dX10_isSentence_56 : decode cX10_isSentence 56 = .ok (.tableswitch 236 3 21 #[92, 92, 115, 115, 149, 149, 154, 154, 154, 149, 149, 149, 162, 154, 192, 203, 149, 154, 115], 92) := by decide +kernel
theorem dX10_isSentence_148 : decode cX10_isSentence 148 = .ok (.aload_n 0, 1) := by decide +kernel
theorem dX10_isSentence_149 : decode cX10_isSentence 149 = .ok (.invokevirtual 98, 3) := by decide +kernel
theorem dX10_isSentence_152 : decode cX10_isSentence 152 = .ok (.ifCond .eq 14, 3) := by decide +kernel
theorem dX10_isSentence_155 : decode cX10_isSentence 155 = .ok (.aload_n 0, 1) := by decide +kernel
theorem dX10_isSentence_156 : decode cX10_isSentence 156 = .ok (.invokevirtual 102, 3) := by decide +kernel
theorem dX10_isSentence_159 : decode cX10_isSentence 159 = .ok (.ifCond .eq 7, 3) := by decide +kernel
theorem dX10_isSentence_162 : decode cX10_isSentence 162 = .ok (.iconst 1, 1) := by decide +kernel
theorem dX10_isSentence_163 : decode cX10_isSentence 163 = .ok (.goto 4, 3) := by decide +kernel
theorem dX10_isSentence_166 : decode cX10_isSentence 166 = .ok (.iconst 0, 1) := by decide +kernel
theorem dX10_isSentence_167 : decode cX10_isSentence 167 = .ok (.istore_n 1, 1) := by decide +kernel
theorem dX10_isSentence_168 : decode cX10_isSentence 168 = .ok (.goto 126, 3) := by decide +kernel
theorem dX10_isSentence_171 : decode cX10_isSentence 171 = .ok (.aload_n 0, 1) := by decide +kernel
theorem dX10_isSentence_172 : decode cX10_isSentence 172 = .ok (.invokevirtual 98, 3) := by decide +kernel
theorem dX10_isSentence_175 : decode cX10_isSentence 175 = .ok (.ifCond .eq 25, 3) := by decide +kernel
theorem dX10_isSentence_178 : decode cX10_isSentence 178 = .ok (.aload_n 0, 1) := by decide +kernel
theorem dX10_isSentence_179 : decode cX10_isSentence 179 = .ok (.bipush 58, 2) := by decide +kernel
theorem dX10_isSentence_181 : decode cX10_isSentence 181 = .ok (.invokevirtual 105, 3) := by decide +kernel
theorem dX10_isSentence_184 : decode cX10_isSentence 184 = .ok (.ifCond .eq 16, 3) := by decide +kernel
theorem dX10_isSentence_187 : decode cX10_isSentence 187 = .ok (.aload_n 0, 1) := by decide +kernel
theorem dX10_isSentence_188 : decode cX10_isSentence 188 = .ok (.iconst 0, 1) := by decide +kernel
theorem dX10_isSentence_189 : decode cX10_isSentence 189 = .ok (.iconst 0, 1) := by decide +kernel
theorem dX10_isSentence_190 : decode cX10_isSentence 190 = .ok (.invokevirtual 108, 3) := by decide +kernel
theorem dX10_isSentence_193 : decode cX10_isSentence 193 = .ok (.ifCond .eq 7, 3) := by decide +kernel
theorem dX10_isSentence_196 : decode cX10_isSentence 196 = .ok (.iconst 1, 1) := by decide +kernel
theorem dX10_isSentence_197 : decode cX10_isSentence 197 = .ok (.goto 4, 3) := by decide +kernel
theorem dX10_isSentence_200 : decode cX10_isSentence 200 = .ok (.iconst 0, 1) := by decide +kernel
theorem dX10_isSentence_201 : decode cX10_isSentence 201 = .ok (.istore_n 1, 1) := by decide +kernel
theorem dX10_isSentence_202 : decode cX10_isSentence 202 = .ok (.goto 92, 3) := by decide +kernel
theorem dX10_isSentence_205 : decode cX10_isSentence 205 = .ok (.iconst 1, 1) := by decide +kernel
theorem dX10_isSentence_206 : decode cX10_isSentence 206 = .ok (.istore_n 1, 1) := by decide +kernel
theorem dX10_isSentence_207 : decode cX10_isSentence 207 = .ok (.goto 87, 3) := by decide +kernel
theorem dX10_isSentence_210 : decode cX10_isSentence 210 = .ok (.aload_n 0, 1) := by decide +kernel
theorem dX10_isSentence_211 : decode cX10_isSentence 211 = .ok (.invokevirtual 98, 3) := by decide +kernel
theorem dX10_isSentence_214 : decode cX10_isSentence 214 = .ok (.istore_n 1, 1) := by decide +kernel
theorem dX10_isSentence_215 : decode cX10_isSentence 215 = .ok (.goto 79, 3) := by decide +kernel
theorem dX10_isSentence_218 : decode cX10_isSentence 218 = .ok (.aload_n 0, 1) := by decide +kernel
theorem dX10_isSentence_219 : decode cX10_isSentence 219 = .ok (.invokevirtual 98, 3) := by decide +kernel
theorem dX10_isSentence_222 : decode cX10_isSentence 222 = .ok (.ifCond .eq 21, 3) := by decide +kernel
theorem dX10_isSentence_225 : decode cX10_isSentence 225 = .ok (.aload_n 0, 1) := by decide +kernel
theorem dX10_isSentence_226 : decode cX10_isSentence 226 = .ok (.invokevirtual 98, 3) := by decide +kernel
theorem dX10_isSentence_229 : decode cX10_isSentence 229 = .ok (.ifCond .eq 14, 3) := by decide +kernel
theorem dX10_isSentence_232 : decode cX10_isSentence 232 = .ok (.aload_n 0, 1) := by decide +kernel
theorem dX10_isSentence_233 : decode cX10_isSentence 233 = .ok (.invokevirtual 98, 3) := by decide +kernel
theorem dX10_isSentence_236 : decode cX10_isSentence 236 = .ok (.ifCond .eq 7, 3) := by decide +kernel
theorem dX10_isSentence_239 : decode cX10_isSentence 239 = .ok (.iconst 1, 1) := by decide +kernel
theorem dX10_isSentence_240 : decode cX10_isSentence 240 = .ok (.goto 4, 3) := by decide +kernel
theorem dX10_isSentence_243 : decode cX10_isSentence 243 = .ok (.iconst 0, 1) := by decide +kernel
theorem dX10_isSentence_244 : decode cX10_isSentence 244 = .ok (.istore_n 1, 1) := by decide +kernel
theorem dX10_isSentence_245 : decode cX10_isSentence 245 = .ok (.goto 49, 3) := by decide +kernel
theorem dX10_isSentence_248 : decode cX10_isSentence 248 = .ok (.aload_n 0, 1) := by decide +kernel
theorem dX10_isSentence_249 : decode cX10_isSentence 249 = .ok (.bipush 8, 2) := by decide +kernel
theorem dX10_isSentence_251 : decode cX10_isSentence 251 = .ok (.iconst 0, 1) := by decide +kernel
theorem dX10_isSentence_252 : decode cX10_isSentence 252 = .ok (.invokevirtual 112, 3) := by decide +kernel
theorem dX10_isSentence_255 : decode cX10_isSentence 255 = .ok (.istore_n 1, 1) := by decide +kernel
theorem dX10_isSentence_256 : decode cX10_isSentence 256 = .ok (.goto 38, 3) := by decide +kernel
theorem dX10_isSentence_259 : decode cX10_isSentence 259 = .ok (.aload_n 0, 1) := by decide +kernel
theorem dX10_isSentence_260 : decode cX10_isSentence 260 = .ok (.invokevirtual 98, 3) := by decide +kernel
theorem dX10_isSentence_263 : decode cX10_isSentence 263 = .ok (.ifCond .eq 24, 3) := by decide +kernel
theorem dX10_isSentence_266 : decode cX10_isSentence 266 = .ok (.aload_n 0, 1) := by decide +kernel
theorem dX10_isSentence_267 : decode cX10_isSentence 267 = .ok (.bipush 8, 2) := by decide +kernel
theorem dX10_isSentence_269 : decode cX10_isSentence 269 = .ok (.iconst 0, 1) := by decide +kernel
theorem dX10_isSentence_270 : decode cX10_isSentence 270 = .ok (.invokevirtual 112, 3) := by decide +kernel
theorem dX10_isSentence_273 : decode cX10_isSentence 273 = .ok (.ifCond .eq 14, 3) := by decide +kernel
theorem dX10_isSentence_276 : decode cX10_isSentence 276 = .ok (.aload_n 0, 1) := by decide +kernel
theorem dX10_isSentence_277 : decode cX10_isSentence 277 = .ok (.invokevirtual 98, 3) := by decide +kernel
theorem dX10_isSentence_280 : decode cX10_isSentence 280 = .ok (.ifCond .eq 7, 3) := by decide +kernel
theorem dX10_isSentence_283 : decode cX10_isSentence 283 = .ok (.iconst 1, 1) := by decide +kernel
theorem dX10_isSentence_284 : decode cX10_isSentence 284 = .ok (.goto 4, 3) := by decide +kernel
theorem dX10_isSentence_287 : decode cX10_isSentence 287 = .ok (.iconst 0, 1) := by decide +kernel
theorem dX10_isSentence_288 : decode cX10_isSentence 288 = .ok (.istore_n 1, 1) := by decide +kernel
theorem dX10_isSentence_289 : decode cX10_isSentence 289 = .ok (.goto 5, 3) := by decide +kernel
theorem dX10_isSentence_292 : decode cX10_isSentence 292 = .ok (.iconst 0, 1) := by decide +kernel
theorem dX10_isSentence_293 : decode cX10_isSentence 293 = .ok (.istore_n 1, 1) := by decide +kernel
theorem dX10_isSentence_294 : decode cX10_isSentence 294 = .ok (.iload_n 1, 1) := by decide +kernel
theorem dX10_isSentence_295 : decode cX10_isSentence 295 = .ok (.ifCond .eq 29, 3) := by decide +kernel
theorem dX10_isSentence_298 : decode cX10_isSentence 298 = .ok (.aload_n 0, 1) := by decide +kernel
theorem dX10_isSentence_299 : decode cX10_isSentence 299 = .ok (.getfield 83, 3) := by decide +kernel
theorem dX10_isSentence_302 : decode cX10_isSentence 302 = .ok (.aload_n 0, 1) := by decide +kernel
theorem dX10_isSentence_303 : decode cX10_isSentence 303 = .ok (.getfield 28, 3) := by decide +kernel
theorem dX10_isSentence_306 : decode cX10_isSentence 306 = .ok (.iconst 1, 1) := by decide +kernel
theorem dX10_isSentence_307 : decode cX10_isSentence 307 = .ok (.isub, 1) := by decide +kernel
theorem dX10_isSentence_308 : decode cX10_isSentence 308 = .ok (.if_icmp .ne 16, 3) := by decide +kernel
theorem dX10_isSentence_311 : decode cX10_isSentence 311 = .ok (.aload_n 0, 1) := by decide +kernel
theorem dX10_isSentence_312 : decode cX10_isSentence 312 = .ok (.invokevirtual 115, 3) := by decide +kernel
theorem dX10_isSentence_315 : decode cX10_isSentence 315 = .ok (.bipush 46, 2) := by decide +kernel
theorem dX10_isSentence_317 : decode cX10_isSentence 317 = .ok (.if_icmp .ne 7, 3) := by decide +kernel
theorem dX10_isSentence_320 : decode cX10_isSentence 320 = .ok (.iconst 1, 1) := by decide +kernel
theorem dX10_isSentence_321 : decode cX10_isSentence 321 = .ok (.goto 4, 3) := by decide +kernel
theorem dX10_isSentence_324 : decode cX10_isSentence 324 = .ok (.iconst 0, 1) := by decide +kernel
theorem dX10_isSentence_325 : decode cX10_isSentence 325 = .ok (.ireturn, 1) := by decide +kernel
end
section
theorem dX1_earlyFault_0 : decode cX1_earlyFault 0 = .ok (.aload_n 0, 1) := by decide +kernel
theorem dX1_earlyFault_1 : decode cX1_earlyFault 1 = .ok (.getfield 72, 3) := by decide +kernel
theorem dX1_earlyFault_4 : decode cX1_earlyFault 4 = .ok (.aload_n 0, 1) := by decide +kernel
theorem dX1_earlyFault_5 : decode cX1_earlyFault 5 = .ok (.getfield 69, 3) := by decide +kernel
theorem dX1_earlyFault_8 : decode cX1_earlyFault 8 = .ok (.if_icmp .ge 15, 3) := by decide +kernel
theorem dX1_earlyFault_11 : decode cX1_earlyFault 11 = .ok (.aload_n 0, 1) := by decide +kernel
theorem dX1_earlyFault_12 : decode cX1_earlyFault 12 = .ok (.getfield 27, 3) := by decide +kernel
theorem dX1_earlyFault_15 : decode cX1_earlyFault 15 = .ok (.aload_n 0, 1) := by decide +kernel
theorem dX1_earlyFault_16 : decode cX1_earlyFault 16 = .ok (.getfield 72, 3) := by decide +kernel
theorem dX1_earlyFault_19 : decode cX1_earlyFault 19 = .ok (.iaload, 1) := by decide +kernel
theorem dX1_earlyFault_20 : decode cX1_earlyFault 20 = .ok (.goto 4, 3) := by decide +kernel
theorem dX1_earlyFault_23 : decode cX1_earlyFault 23 = .ok (.iconst 0, 1) := by decide +kernel
theorem dX1_earlyFault_24 : decode cX1_earlyFault 24 = .ok (.ireturn, 1) := by decide +kernel
theorem dX1_endsLine_0 : decode cX1_endsLine 0 = .ok (.aload_n 0, 1) := by decide +kernel
theorem dX1_endsLine_1 : decode cX1_endsLine 1 = .ok (.getfield 15, 3) := by decide +kernel
theorem dX1_endsLine_4 : decode cX1_endsLine 4 = .ok (.iload_n 1, 1) := by decide +kernel
theorem dX1_endsLine_5 : decode cX1_endsLine 5 = .ok (.iaload, 1) := by decide +kernel
theorem dX1_endsLine_6 : decode cX1_endsLine 6 = .ok (.bipush 13, 2) := by decide +kernel
theorem dX1_endsLine_8 : decode cX1_endsLine 8 = .ok (.if_icmp .ne 7, 3) := by decide +kernel
theorem dX1_endsLine_11 : decode cX1_endsLine 11 = .ok (.iconst 1, 1) := by decide +kernel
theorem dX1_endsLine_12 : decode cX1_endsLine 12 = .ok (.goto 4, 3) := by decide +kernel
theorem dX1_endsLine_15 : decode cX1_endsLine 15 = .ok (.iconst 0, 1) := by decide +kernel
theorem dX1_endsLine_16 : decode cX1_endsLine 16 = .ok (.istore_n 2, 1) := by decide +kernel
theorem dX1_endsLine_17 : decode cX1_endsLine 17 = .ok (.aload_n 0, 1) := by decide +kernel
theorem dX1_endsLine_18 : decode cX1_endsLine 18 = .ok (.getfield 15, 3) := by decide +kernel
theorem dX1_endsLine_21 : decode cX1_endsLine 21 = .ok (.iload_n 1, 1) := by decide +kernel
theorem dX1_endsLine_22 : decode cX1_endsLine 22 = .ok (.iaload, 1) := by decide +kernel
theorem dX1_endsLine_23 : decode cX1_endsLine 23 = .ok (.bipush 10, 2) := by decide +kernel
theorem dX1_endsLine_25 : decode cX1_endsLine 25 = .ok (.if_icmp .eq 30, 3) := by decide +kernel
theorem dX1_endsLine_28 : decode cX1_endsLine 28 = .ok (.iload_n 2, 1) := by decide +kernel
theorem dX1_endsLine_29 : decode cX1_endsLine 29 = .ok (.ifCond .eq 30, 3) := by decide +kernel
theorem dX1_endsLine_32 : decode cX1_endsLine 32 = .ok (.iload_n 1, 1) := by decide +kernel
theorem dX1_endsLine_33 : decode cX1_endsLine 33 = .ok (.iconst 1, 1) := by decide +kernel
theorem dX1_endsLine_34 : decode cX1_endsLine 34 = .ok (.iadd, 1) := by decide +kernel
theorem dX1_endsLine_35 : decode cX1_endsLine 35 = .ok (.aload_n 0, 1) := by decide +kernel
theorem dX1_endsLine_36 : decode cX1_endsLine 36 = .ok (.getfield 42, 3) := by decide +kernel
theorem dX1_endsLine_39 : decode cX1_endsLine 39 = .ok (.if_icmp .ge 16, 3) := by decide +kernel
theorem dX1_endsLine_42 : decode cX1_endsLine 42 = .ok (.aload_n 0, 1) := by decide +kernel
theorem dX1_endsLine_43 : decode cX1_endsLine 43 = .ok (.getfield 15, 3) := by decide +kernel
theorem dX1_endsLine_46 : decode cX1_endsLine 46 = .ok (.iload_n 1, 1) := by decide +kernel
theorem dX1_endsLine_47 : decode cX1_endsLine 47 = .ok (.iconst 1, 1) := by decide +kernel
theorem dX1_endsLine_48 : decode cX1_endsLine 48 = .ok (.iadd, 1) := by decide +kernel
theorem dX1_endsLine_49 : decode cX1_endsLine 49 = .ok (.iaload, 1) := by decide +kernel
theorem dX1_endsLine_50 : decode cX1_endsLine 50 = .ok (.bipush 10, 2) := by decide +kernel
theorem dX1_endsLine_52 : decode cX1_endsLine 52 = .ok (.if_icmp .eq 7, 3) := by decide +kernel
theorem dX1_endsLine_55 : decode cX1_endsLine 55 = .ok (.iconst 1, 1) := by decide +kernel
theorem dX1_endsLine_56 : decode cX1_endsLine 56 = .ok (.goto 4, 3) := by decide +kernel
theorem dX1_endsLine_59 : decode cX1_endsLine 59 = .ok (.iconst 0, 1) := by decide +kernel
theorem dX1_endsLine_60 : decode cX1_endsLine 60 = .ok (.ireturn, 1) := by decide +kernel
theorem dX1_rewind_0 : decode cX1_rewind 0 = .ok (.aload_n 0, 1) := by decide +kernel
theorem dX1_rewind_1 : decode cX1_rewind 1 = .ok (.iconst 0, 1) := by decide +kernel
theorem dX1_rewind_2 : decode cX1_rewind 2 = .ok (.putfield 111, 3) := by decide +kernel
theorem dX1_rewind_5 : decode cX1_rewind 5 = .ok (.aload_n 0, 1) := by decide +kernel
theorem dX1_rewind_6 : decode cX1_rewind 6 = .ok (.iconst 0, 1) := by decide +kernel
theorem dX1_rewind_7 : decode cX1_rewind 7 = .ok (.putfield 114, 3) := by decide +kernel
theorem dX1_rewind_10 : decode cX1_rewind 10 = .ok (.aload_n 0, 1) := by decide +kernel
theorem dX1_rewind_11 : decode cX1_rewind 11 = .ok (.iconst 0, 1) := by decide +kernel
theorem dX1_rewind_12 : decode cX1_rewind 12 = .ok (.putfield 117, 3) := by decide +kernel
theorem dX1_rewind_15 : decode cX1_rewind 15 = .ok (.return_, 1) := by decide +kernel
theorem dX1_seek_0 : decode cX1_seek 0 = .ok (.aload_n 0, 1) := by decide +kernel
theorem dX1_seek_1 : decode cX1_seek 1 = .ok (.getfield 117, 3) := by decide +kernel
theorem dX1_seek_4 : decode cX1_seek 4 = .ok (.iload_n 1, 1) := by decide +kernel
theorem dX1_seek_5 : decode cX1_seek 5 = .ok (.if_icmp .ge 58, 3) := by decide +kernel
theorem dX1_seek_8 : decode cX1_seek 8 = .ok (.aload_n 0, 1) := by decide +kernel
theorem dX1_seek_9 : decode cX1_seek 9 = .ok (.getfield 117, 3) := by decide +kernel
theorem dX1_seek_12 : decode cX1_seek 12 = .ok (.aload_n 0, 1) := by decide +kernel
theorem dX1_seek_13 : decode cX1_seek 13 = .ok (.getfield 42, 3) := by decide +kernel
theorem dX1_seek_16 : decode cX1_seek 16 = .ok (.if_icmp .ge 47, 3) := by decide +kernel
theorem dX1_seek_19 : decode cX1_seek 19 = .ok (.aload_n 0, 1) := by decide +kernel
theorem dX1_seek_20 : decode cX1_seek 20 = .ok (.aload_n 0, 1) := by decide +kernel
theorem dX1_seek_21 : decode cX1_seek 21 = .ok (.getfield 117, 3) := by decide +kernel
theorem dX1_seek_24 : decode cX1_seek 24 = .ok (.invokevirtual 108, 3) := by decide +kernel
theorem dX1_seek_27 : decode cX1_seek 27 = .ok (.ifCond .eq 23, 3) := by decide +kernel
theorem dX1_seek_30 : decode cX1_seek 30 = .ok (.aload_n 0, 1) := by decide +kernel
theorem dX1_seek_31 : decode cX1_seek 31 = .ok (.dup, 1) := by decide +kernel
theorem dX1_seek_32 : decode cX1_seek 32 = .ok (.getfield 111, 3) := by decide +kernel
theorem dX1_seek_35 : decode cX1_seek 35 = .ok (.iconst 1, 1) := by decide +kernel
theorem dX1_seek_36 : decode cX1_seek 36 = .ok (.iadd, 1) := by decide +kernel
theorem dX1_seek_37 : decode cX1_seek 37 = .ok (.putfield 111, 3) := by decide +kernel
theorem dX1_seek_40 : decode cX1_seek 40 = .ok (.aload_n 0, 1) := by decide +kernel
theorem dX1_seek_41 : decode cX1_seek 41 = .ok (.aload_n 0, 1) := by decide +kernel
theorem dX1_seek_42 : decode cX1_seek 42 = .ok (.getfield 117, 3) := by decide +kernel
theorem dX1_seek_45 : decode cX1_seek 45 = .ok (.iconst 1, 1) := by decide +kernel
theorem dX1_seek_46 : decode cX1_seek 46 = .ok (.iadd, 1) := by decide +kernel
theorem dX1_seek_47 : decode cX1_seek 47 = .ok (.putfield 114, 3) := by decide +kernel
theorem dX1_seek_50 : decode cX1_seek 50 = .ok (.aload_n 0, 1) := by decide +kernel
theorem dX1_seek_51 : decode cX1_seek 51 = .ok (.dup, 1) := by decide +kernel
theorem dX1_seek_52 : decode cX1_seek 52 = .ok (.getfield 117, 3) := by decide +kernel
theorem dX1_seek_55 : decode cX1_seek 55 = .ok (.iconst 1, 1) := by decide +kernel
theorem dX1_seek_56 : decode cX1_seek 56 = .ok (.iadd, 1) := by decide +kernel
theorem dX1_seek_57 : decode cX1_seek 57 = .ok (.putfield 117, 3) := by decide +kernel
theorem dX1_seek_60 : decode cX1_seek 60 = .ok (.goto (-60), 3) := by decide +kernel
theorem dX1_seek_63 : decode cX1_seek 63 = .ok (.return_, 1) := by decide +kernel
def EX1_endsLine : List (Nat × Nat) := []
def EX1_rewind : List (Nat × Nat) := [(3, 14), (3, 15), (3, 16)]
def EX1_seek : List (Nat × Nat) := [(3, 14), (3, 15), (3, 16)]
def EX1_earlyFault : List (Nat × Nat) := []
set_option maxHeartbeats 4000000 in
set_option maxRecDepth 20000 in
theorem uX1_endsLine (l : Launch) (dC : Nat → ClassId) (dI : Nat → Nat → Nat) (ca : Nat → ClassId) (base : Nat) (B : jF) (hB : jBok B) (hAp : jAp (dC, dI)) (hB3 : ∀ n G a H, B 3 n G a H ↔ jOb (dC, dI) 3 17 (F3 n G) a H) (hB173 : ∀ n G a H, B 173 n G a H ↔ jAr (dC, dI) (ca 1) (fun j z => True) n a H) (G0 : jT) (H0 : Heap) (r0 : Nat) (a1 : Int32) (n0 : Nat) (pl : Int32) : Met l yX1_endsLine (jw yX1_endsLine cX1_endsLine 3 (some .boolean)) ({ frames := 0, cells := 0, slots := 0, locals := 0 }) (va_Pc [.ref r0, .int a1] (fun U => U.heap = H0 ∧ jX B base G0 [] H0 ∧ jG dC dI ca base U ∧ G0 r0 = some (3, n0) ∧ jP (dC, dI) G0 H0 [(r0, 3, 3, .int pl)] ∧ 0 ≤ a1.toInt ∧ a1.toInt < pl.toInt ∧ pl.toInt ≤ 1500)) (va_Qi (S := Unit) (fun r u => (r = 0 ∨ r = 1) ∧ (True)) (fun u t => jRt (dC, dI) B base G0 EX1_endsLine H0 [] t.heap) (jA base)) 0 0 (jA base) := by
  refine Met.ofW (cc := cX1_endsLine) (maxL := 3) (ret := (some .boolean)) (by decide) rfl ?_
  intro p e s m args below meth c s₁ Bd hml hv
  obtain ⟨rfl, hH0, hX, hG, hg_r0, hP0, hp0, hp1, hp2⟩ := hv
  have hK := hG.1
  have hx := Bd.exec
  have hb := Bd.bytes
  have hr := Bd.returns
  have hts := atoms_spec (ws := (jw yX1_endsLine cX1_endsLine 3 (some .boolean))) Bd.pre
  have htw : ∀ w ∈ jWl, w.before _ s = true := fun w h => hts w (List.mem_cons_of_mem _ h)
  have hown : s.vm.findClass RX1 = some m.cls := findClass_of_methodNamed Bd.named
  have hlocks := Bd.notSynchronized
  obtain ⟨Q, hQ⟩ : ∃ Q, Q = MQ below (va_Qi (S := Unit) (fun r u => (r = 0 ∨ r = 1) ∧ (True)) (fun u t => jRt (dC, dI) B base G0 EX1_endsLine H0 [] t.heap) (jA base)) ([.ref r0, .int a1] : List Value).toArray s 0 0 (jA base) := ⟨_, rfl⟩
  rw [← hQ]
  have hl := lv_entry ([.ref r0, .int a1]) (n := 3) (Nat.le_of_ble_eq_true rfl)
  rw [lg_entry_eq]
  generalize (lg_sl ([.ref r0, .int a1]) ++ List.replicate (3 - (lg_sl ([.ref r0, .int a1])).length) Slot.unset).toArray = ls at hl ⊢
  have hl : lv_has ls 3 [(0, .ref r0), (1, .int a1)] := hl
  generalize hR : (headSpec (jw yX1_endsLine cX1_endsLine 3 (some .boolean)) ({ frames := 0, cells := 0, slots := 0, locals := 0 })).room = R
  subst hH0
  have hh : jSt (dC, dI) B base G0 G0 EX1_endsLine s.heap 0 0 [(r0, 3, 3, .int pl)] [] [] s.heap [] := jSt.start hX hP0 jMc.nil jIs.nil
  clear hX hP0
  have hk0 : (0 : Int32).toInt = 0 := by decide
  have hk1 : (1 : Int32).toInt = 1 := by decide
  have hk10 : (10 : Int32).toInt = 10 := by decide
  have hk13 : (13 : Int32).toInt = 13 := by decide
  have hly_3_2 := htw (u_lay RX1 TX1 2) (jWc_wsX10 _ (u_in_lay (by decide)))
  have hly_3_3 := htw (u_lay RX1 TX1 3) (jWc_wsX10 _ (u_in_lay (by decide)))
  have hlk_15 := (htw (.fieldLink RX1 15 "ProofServer$Document" "text" "[I") (jWr_10 _ (List.mem_of_getElem? (i := 6) rfl)))
  have hlk_42 := (htw (.fieldLink RX1 42 "ProofServer$Document" "length" "I") (jWr_29 _ (List.mem_of_getElem? (i := 5) rfl)))
  have hrg_a1 := jb_rng a1
  refine lv_aload_n hx hb dX1_endsLine_0 rfl (lv_at hl 0 rfl) ?_
  obtain ⟨v_1, hv_1, hh_2⟩ := hh.pin (C := RX1) (T := TX1) (N := 17) hB3 rfl (by decide) hg_r0 (i := 2) (by decide) rfl
  clear hh
  obtain ⟨text_3, rfl, hg_text_3⟩ := hv_1
  refine j7_read hx hb hown hK (C := RX1) (T := TX1) (N := 17) rfl hly_3_2 hlk_15 (hh_2.at 0 rfl) dX1_endsLine_1 ?_
  refine lv_iload_n hx hb dX1_endsLine_4 rfl (lv_at hl 1 rfl) ?_
  refine j7_iald hx hb hK hh_2 hB173 1 rfl (by decide) hg_text_3 (x := a1.toInt) (rfl) (by omega) dX1_endsLine_5 (fun z_4 (hz_4 : True) => ?_)
  refine lv_bipush (v := 13) hx hb dX1_endsLine_6 (by decide) ?_
  have C16 : ∀ (w0_5 : Int32) (H_5 : Heap) (locs_5 : List Loc), jSt (dC, dI) B base G0 G0 EX1_endsLine s.heap 0 0 [(r0, 3, 2, .ref text_3), (r0, 3, 3, .int pl)] [] [] H_5 locs_5 → (w0_5 = 0 ∨ w0_5 = 1) → (True) → ∀ ls : Array Slot, lv_has ls 3 [(0, .ref r0), (1, .int a1)] → W p l e R s m ([.ref r0, .int a1] : List Value).toArray below meth c H_5 locs_5 0 0 Q (F0 m 16 ls [.int w0_5]) := by
    intro w0_5 H_5 locs_5 hh_5 hb_w0_5 hi_5 ls hl
    have hb_w0_5' := jb_01 hb_w0_5
    refine lv_istore_n (lv' := [(2, .int w0_5), (0, .ref r0), (1, .int a1)]) hx hb dX1_endsLine_16 rfl hl (by decide) rfl (fun ls hl => ?_)
    refine lv_aload_n hx hb dX1_endsLine_17 rfl (lv_at hl 1 rfl) ?_
    refine j7_read hx hb hown hK (C := RX1) (T := TX1) (N := 17) rfl hly_3_2 hlk_15 (hh_5.at 0 rfl) dX1_endsLine_18 ?_
    refine lv_iload_n hx hb dX1_endsLine_21 rfl (lv_at hl 2 rfl) ?_
    refine j7_iald hx hb hK hh_5 hB173 1 rfl (by decide) hg_text_3 (x := a1.toInt) (rfl) (by omega) dX1_endsLine_22 (fun z_6 (hz_6 : True) => ?_)
    refine lv_bipush (v := 10) hx hb dX1_endsLine_23 (by decide) ?_
    refine lv_icmp_eq (tgt := 55) hx hb dX1_endsLine_25 (by decide) (fun c_7 => ?_) (fun c_7 => ?_)
    · skip
      have c_7' : z_6.toInt = 10 := jb_eq (rfl) ((by decide)) c_7
      refine lv_iconst (v := 1) hx hb dX1_endsLine_55 (by decide) ?_
      refine lv_goto (tgt := 60) hx hb dX1_endsLine_56 (by decide) ?_
      rw [hQ]
      exact W.zret (v := 1) hx hb hr (jb_nz (Or.inr rfl)) (fun t ht hW => ⟨⟨1, (), rfl, ⟨(Or.inr rfl), trivial⟩, hh_5.rt (M1 := []) [] rfl ht⟩, by rw [ht]; try exact hh_5.1.1, fun q h9 hq => by rw [ht]; try exact hh_5.1.2.1 q h9 hq⟩) hh_5.1.2.2 dX1_endsLine_60
    · skip
      have c_7' : z_6.toInt ≠ 10 := jb_eq_n (rfl) ((by decide)) c_7
      refine lv_iload_n hx hb dX1_endsLine_28 rfl (lv_at hl 0 rfl) ?_
      refine lv_if_eq (tgt := 59) hx hb dX1_endsLine_29 (by decide) (fun c_8 => ?_) (fun c_8 => ?_)
      · skip
        have c_8' : w0_5.toInt = 0 := jb_eq (rfl) ((by decide)) c_8
        refine lv_iconst (v := 0) hx hb dX1_endsLine_59 (by decide) ?_
        rw [hQ]
        exact W.zret (v := 0) hx hb hr (jb_nz (Or.inl rfl)) (fun t ht hW => ⟨⟨0, (), rfl, ⟨(Or.inl rfl), trivial⟩, hh_5.rt (M1 := []) [] rfl ht⟩, by rw [ht]; try exact hh_5.1.1, fun q h9 hq => by rw [ht]; try exact hh_5.1.2.1 q h9 hq⟩) hh_5.1.2.2 dX1_endsLine_60
      · skip
        have c_8' : w0_5.toInt ≠ 0 := jb_eq_n (rfl) ((by decide)) c_8
        refine lv_iload_n hx hb dX1_endsLine_32 rfl (lv_at hl 2 rfl) ?_
        refine lv_iconst (v := 1) hx hb dX1_endsLine_33 (by decide) ?_
        refine lv_iadd hx hb dX1_endsLine_34 ?_
        refine lv_topi (fun z_9 ez_9 => ?_)
        have hz_9 : z_9.toInt = a1.toInt + 1 := by rw [ez_9]; exact jb_iadd2 (rfl) ((by decide)) (by omega)
        refine lv_aload_n hx hb dX1_endsLine_35 rfl (lv_at hl 1 rfl) ?_
        refine j7_read hx hb hown hK (C := RX1) (T := TX1) (N := 17) rfl hly_3_3 hlk_42 (hh_5.at 1 rfl) dX1_endsLine_36 ?_
        refine lv_icmp_ge (tgt := 55) hx hb dX1_endsLine_39 (by decide) (fun c_10 => ?_) (fun c_10 => ?_)
        · skip
          have c_10' : z_9.toInt ≥ pl.toInt := jb_ge (rfl) (rfl) c_10
          refine lv_iconst (v := 1) hx hb dX1_endsLine_55 (by decide) ?_
          refine lv_goto (tgt := 60) hx hb dX1_endsLine_56 (by decide) ?_
          rw [hQ]
          exact W.zret (v := 1) hx hb hr (jb_nz (Or.inr rfl)) (fun t ht hW => ⟨⟨1, (), rfl, ⟨(Or.inr rfl), trivial⟩, hh_5.rt (M1 := []) [] rfl ht⟩, by rw [ht]; try exact hh_5.1.1, fun q h9 hq => by rw [ht]; try exact hh_5.1.2.1 q h9 hq⟩) hh_5.1.2.2 dX1_endsLine_60
        · skip
          have c_10' : z_9.toInt < pl.toInt := jb_ge_n (rfl) (rfl) c_10
          refine lv_aload_n hx hb dX1_endsLine_42 rfl (lv_at hl 1 rfl) ?_
          refine j7_read hx hb hown hK (C := RX1) (T := TX1) (N := 17) rfl hly_3_2 hlk_15 (hh_5.at 0 rfl) dX1_endsLine_43 ?_
          refine lv_iload_n hx hb dX1_endsLine_46 rfl (lv_at hl 2 rfl) ?_
          refine lv_iconst (v := 1) hx hb dX1_endsLine_47 (by decide) ?_
          refine lv_iadd hx hb dX1_endsLine_48 ?_
          refine lv_topi (fun z_11 ez_11 => ?_)
          have hz_11 : z_11.toInt = a1.toInt + 1 := by rw [ez_11]; exact jb_iadd2 (rfl) ((by decide)) (by omega)
          refine j7_iald hx hb hK hh_5 hB173 1 rfl (by decide) hg_text_3 (x := z_11.toInt) (rfl) (by omega) dX1_endsLine_49 (fun z_12 (hz_12 : True) => ?_)
          refine lv_bipush (v := 10) hx hb dX1_endsLine_50 (by decide) ?_
          refine lv_icmp_eq (tgt := 59) hx hb dX1_endsLine_52 (by decide) (fun c_13 => ?_) (fun c_13 => ?_)
          · skip
            have c_13' : z_12.toInt = 10 := jb_eq (rfl) ((by decide)) c_13
            refine lv_iconst (v := 0) hx hb dX1_endsLine_59 (by decide) ?_
            rw [hQ]
            exact W.zret (v := 0) hx hb hr (jb_nz (Or.inl rfl)) (fun t ht hW => ⟨⟨0, (), rfl, ⟨(Or.inl rfl), trivial⟩, hh_5.rt (M1 := []) [] rfl ht⟩, by rw [ht]; try exact hh_5.1.1, fun q h9 hq => by rw [ht]; try exact hh_5.1.2.1 q h9 hq⟩) hh_5.1.2.2 dX1_endsLine_60
          · skip
            have c_13' : z_12.toInt ≠ 10 := jb_eq_n (rfl) ((by decide)) c_13
            refine lv_iconst (v := 1) hx hb dX1_endsLine_55 (by decide) ?_
            refine lv_goto (tgt := 60) hx hb dX1_endsLine_56 (by decide) ?_
            rw [hQ]
            exact W.zret (v := 1) hx hb hr (jb_nz (Or.inr rfl)) (fun t ht hW => ⟨⟨1, (), rfl, ⟨(Or.inr rfl), trivial⟩, hh_5.rt (M1 := []) [] rfl ht⟩, by rw [ht]; try exact hh_5.1.1, fun q h9 hq => by rw [ht]; try exact hh_5.1.2.1 q h9 hq⟩) hh_5.1.2.2 dX1_endsLine_60
  refine lv_icmp_ne (tgt := 15) hx hb dX1_endsLine_8 (by decide) (fun c_14 => ?_) (fun c_14 => ?_)
  · skip
    have c_14' : z_4.toInt ≠ 13 := jb_ne (rfl) ((by decide)) c_14
    refine lv_iconst (v := 0) hx hb dX1_endsLine_15 (by decide) ?_
    exact C16 0 _ _ hh_2 (Or.inl rfl) (trivial) _ (lv_sub hl [0, 1] rfl)
  · skip
    have c_14' : z_4.toInt = 13 := jb_ne_n (rfl) ((by decide)) c_14
    refine lv_iconst (v := 1) hx hb dX1_endsLine_11 (by decide) ?_
    refine lv_goto (tgt := 16) hx hb dX1_endsLine_12 (by decide) ?_
    exact C16 1 _ _ hh_2 (Or.inr rfl) (trivial) _ (lv_sub hl [0, 1] rfl)
set_option maxHeartbeats 4000000 in
set_option maxRecDepth 20000 in
theorem uX1_rewind (l : Launch) (dC : Nat → ClassId) (dI : Nat → Nat → Nat) (ca : Nat → ClassId) (base : Nat) (B : jF) (hB : jBok B) (hAp : jAp (dC, dI)) (hB3 : ∀ n G a H, B 3 n G a H ↔ jOb (dC, dI) 3 17 (F3 n G) a H) (G0 : jT) (H0 : Heap) (r0 : Nat) : Met l yX1_rewind (jw yX1_rewind cX1_rewind 1 none) ({ frames := 0, cells := 0, slots := 0, locals := 0 }) (va_Pc [.ref r0] (fun U => U.heap = H0 ∧ jX B base G0 [] H0 ∧ jG dC dI ca base U ∧ G0 r0 = some (3, 0) ∧ jP (dC, dI) G0 H0 [] ∧ True)) (va_Qv (S := Unit) (fun u => True) (fun u t => jRt (dC, dI) B base G0 EX1_rewind H0 [] t.heap) (jA base)) 0 0 (jA base) := by
  refine Met.ofW (cc := cX1_rewind) (maxL := 1) (ret := none) (by decide) rfl ?_
  intro p e s m args below meth c s₁ Bd hml hv
  obtain ⟨rfl, hH0, hX, hG, hg_r0, hP0, hp0⟩ := hv
  have hK := hG.1
  have hx := Bd.exec
  have hb := Bd.bytes
  have hr := Bd.returns
  have hts := atoms_spec (ws := (jw yX1_rewind cX1_rewind 1 none)) Bd.pre
  have htw : ∀ w ∈ jWl, w.before _ s = true := fun w h => hts w (List.mem_cons_of_mem _ h)
  have hown : s.vm.findClass RX1 = some m.cls := findClass_of_methodNamed Bd.named
  have hlocks := Bd.notSynchronized
  obtain ⟨Q, hQ⟩ : ∃ Q, Q = MQ below (va_Qv (S := Unit) (fun u => True) (fun u t => jRt (dC, dI) B base G0 EX1_rewind H0 [] t.heap) (jA base)) ([.ref r0] : List Value).toArray s 0 0 (jA base) := ⟨_, rfl⟩
  rw [← hQ]
  have hl := lv_entry ([.ref r0]) (n := 1) (Nat.le_of_ble_eq_true rfl)
  rw [lg_entry_eq]
  generalize (lg_sl ([.ref r0]) ++ List.replicate (1 - (lg_sl ([.ref r0])).length) Slot.unset).toArray = ls at hl ⊢
  have hl : lv_has ls 1 [(0, .ref r0)] := hl
  generalize hR : (headSpec (jw yX1_rewind cX1_rewind 1 none) ({ frames := 0, cells := 0, slots := 0, locals := 0 })).room = R
  subst hH0
  have hh : jSt (dC, dI) B base G0 G0 EX1_rewind s.heap 0 0 [] [] [] s.heap [] := jSt.start hX hP0 jMc.nil jIs.nil
  clear hX hP0
  have hk0 : (0 : Int32).toInt = 0 := by decide
  have hk1 : (1 : Int32).toInt = 1 := by decide
  have hly_3_14 := htw (u_lay RX1 TX1 14) (jWc_wsX10 _ (u_in_lay (by decide)))
  have hly_3_15 := htw (u_lay RX1 TX1 15) (jWc_wsX10 _ (u_in_lay (by decide)))
  have hly_3_16 := htw (u_lay RX1 TX1 16) (jWc_wsX10 _ (u_in_lay (by decide)))
  have hlk_111 := (htw (.fieldLink RX1 111 "ProofServer$Document" "line" "I") (jWr_40 _ (List.mem_of_getElem? (i := 6) rfl)))
  have hlk_114 := (htw (.fieldLink RX1 114 "ProofServer$Document" "lineStart" "I") (jWr_40 _ (List.mem_of_getElem? (i := 7) rfl)))
  have hlk_117 := (htw (.fieldLink RX1 117 "ProofServer$Document" "cursor" "I") (jWr_40 _ (List.mem_of_getElem? (i := 8) rfl)))
  refine lv_aload_n hx hb dX1_rewind_0 rfl (lv_at hl 0 rfl) ?_
  refine lv_iconst (v := 0) hx hb dX1_rewind_1 (by decide) ?_
  refine j7_put hx hb hown hK hh hB hAp hB3 (C := RX1) (T := TX1) (N := 17) rfl (by decide) hg_r0 (i := 14) (by decide) hly_3_14 rfl hlk_111 rfl (ty := .int) (v := .int 0) (by decide +kernel) rfl rfl (⟨_, rfl⟩) rfl (L1 := []) [] rfl rfl rfl dX1_rewind_2 (fun H_1 locs_1 hh_1 => ?_)
  clear hh
  refine lv_aload_n hx hb dX1_rewind_5 rfl (lv_at hl 0 rfl) ?_
  refine lv_iconst (v := 0) hx hb dX1_rewind_6 (by decide) ?_
  refine j7_put hx hb hown hK hh_1 hB hAp hB3 (C := RX1) (T := TX1) (N := 17) rfl (by decide) hg_r0 (i := 15) (by decide) hly_3_15 rfl hlk_114 rfl (ty := .int) (v := .int 0) (by decide +kernel) rfl rfl (⟨_, rfl⟩) rfl (L1 := [(r0, 3, 14, .int 0)]) [0] rfl rfl rfl dX1_rewind_7 (fun H_2 locs_2 hh_2 => ?_)
  clear hh_1
  refine lv_aload_n hx hb dX1_rewind_10 rfl (lv_at hl 0 rfl) ?_
  refine lv_iconst (v := 0) hx hb dX1_rewind_11 (by decide) ?_
  refine j7_put hx hb hown hK hh_2 hB hAp hB3 (C := RX1) (T := TX1) (N := 17) rfl (by decide) hg_r0 (i := 16) (by decide) hly_3_16 rfl hlk_117 rfl (ty := .int) (v := .int 0) (by decide +kernel) rfl rfl (⟨_, rfl, by omega, by omega⟩) rfl (L1 := [(r0, 3, 15, .int 0), (r0, 3, 14, .int 0)]) [0, 1] rfl rfl rfl dX1_rewind_12 (fun H_3 locs_3 hh_3 => ?_)
  clear hh_2
  rw [hQ]
  exact W.vret hx hb hr (fun t ht hW => ⟨⟨(), rfl, trivial, hh_3.rt (M1 := []) [] rfl ht⟩, by rw [ht]; try exact hh_3.1.1, fun q h9 hq => by rw [ht]; try exact hh_3.1.2.1 q h9 hq⟩) hh_3.1.2.2 dX1_rewind_15
set_option maxHeartbeats 4000000 in
set_option maxRecDepth 20000 in
theorem uX1_seek (l : Launch) (dC : Nat → ClassId) (dI : Nat → Nat → Nat) (ca : Nat → ClassId) (base : Nat) (B : jF) (hB : jBok B) (hAp : jAp (dC, dI)) (hB3 : ∀ n G a H, B 3 n G a H ↔ jOb (dC, dI) 3 17 (F3 n G) a H) (hB173 : ∀ n G a H, B 173 n G a H ↔ jAr (dC, dI) (ca 1) (fun j z => True) n a H) (G0 : jT) (H0 : Heap) (r0 : Nat) (a1 : Int32) (n0 : Nat) : Met l yX1_seek (jw yX1_seek cX1_seek 2 none) ({ frames := 1, cells := 0, slots := 0, locals := 22 }) (va_Pc [.ref r0, .int a1] (fun U => U.heap = H0 ∧ jX B base G0 [] H0 ∧ jG dC dI ca base U ∧ G0 r0 = some (3, n0) ∧ jP (dC, dI) G0 H0 [] ∧ True)) (va_Qv (S := Unit) (fun u => True) (fun u t => jRt (dC, dI) B base G0 EX1_seek H0 [] t.heap) (jA base)) 0 0 (jA base) := by
  refine Met.ofW (cc := cX1_seek) (maxL := 2) (ret := none) (by decide) rfl ?_
  intro p e s m args below meth c s₁ Bd hml hv
  obtain ⟨rfl, hH0, hX, hG, hg_r0, hP0, hp0⟩ := hv
  have hK := hG.1
  have hx := Bd.exec
  have hb := Bd.bytes
  have hr := Bd.returns
  have hts := atoms_spec (ws := (jw yX1_seek cX1_seek 2 none)) Bd.pre
  have htw : ∀ w ∈ jWl, w.before _ s = true := fun w h => hts w (List.mem_cons_of_mem _ h)
  have hown : s.vm.findClass RX1 = some m.cls := findClass_of_methodNamed Bd.named
  have hlocks := Bd.notSynchronized
  obtain ⟨Q, hQ⟩ : ∃ Q, Q = MQ below (va_Qv (S := Unit) (fun u => True) (fun u t => jRt (dC, dI) B base G0 EX1_seek H0 [] t.heap) (jA base)) ([.ref r0, .int a1] : List Value).toArray s 0 0 (jA base) := ⟨_, rfl⟩
  rw [← hQ]
  have hl := lv_entry ([.ref r0, .int a1]) (n := 2) (Nat.le_of_ble_eq_true rfl)
  rw [lg_entry_eq]
  generalize (lg_sl ([.ref r0, .int a1]) ++ List.replicate (2 - (lg_sl ([.ref r0, .int a1])).length) Slot.unset).toArray = ls at hl ⊢
  have hl : lv_has ls 2 [(0, .ref r0), (1, .int a1)] := hl
  generalize hR : (headSpec (jw yX1_seek cX1_seek 2 none) ({ frames := 1, cells := 0, slots := 0, locals := 22 })).room = R
  subst hH0
  have hh : jSt (dC, dI) B base G0 G0 EX1_seek s.heap 0 0 [] [] [] s.heap [] := jSt.start hX hP0 jMc.nil jIs.nil
  clear hX hP0
  have hk0 : (0 : Int32).toInt = 0 := by decide
  have hk1 : (1 : Int32).toInt = 1 := by decide
  have hly_3_3 := htw (u_lay RX1 TX1 3) (jWc_wsX10 _ (u_in_lay (by decide)))
  have hly_3_14 := htw (u_lay RX1 TX1 14) (jWc_wsX10 _ (u_in_lay (by decide)))
  have hly_3_15 := htw (u_lay RX1 TX1 15) (jWc_wsX10 _ (u_in_lay (by decide)))
  have hly_3_16 := htw (u_lay RX1 TX1 16) (jWc_wsX10 _ (u_in_lay (by decide)))
  have hlk_117 := (htw (.fieldLink RX1 117 "ProofServer$Document" "cursor" "I") (jWr_40 _ (List.mem_of_getElem? (i := 8) rfl)))
  have hlk_42 := (htw (.fieldLink RX1 42 "ProofServer$Document" "length" "I") (jWr_29 _ (List.mem_of_getElem? (i := 5) rfl)))
  have hlk_111 := (htw (.fieldLink RX1 111 "ProofServer$Document" "line" "I") (jWr_40 _ (List.mem_of_getElem? (i := 6) rfl)))
  have hlk_114 := (htw (.fieldLink RX1 114 "ProofServer$Document" "lineStart" "I") (jWr_40 _ (List.mem_of_getElem? (i := 7) rfl)))
  have hrg_a1 := jb_rng a1
  obtain ⟨v_1, hv_1, hh_2⟩ := hh.pin (C := RX1) (T := TX1) (N := 17) hB3 rfl (by decide) hg_r0 (i := 3) (by decide) rfl
  obtain ⟨length_3, rfl, hlolength_3, hhilength_3⟩ := hv_1
  have L0 : ∀ (N : Nat) (wc_4 : Int32) (H_4 : Heap) (locs_4 : List Loc), jSt (dC, dI) B base G0 G0 EX1_seek s.heap 0 0 [(r0, 3, 16, .int wc_4), (r0, 3, 3, .int length_3)] [] [] H_4 locs_4 → (0 ≤ wc_4.toInt ∧ wc_4.toInt ≤ 1500) → (((length_3.toInt - wc_4.toInt).toNat : Int) : Int) < N → ∀ ls : Array Slot, lv_has ls 2 [(0, .ref r0), (1, .int a1)] → W p l e R s m ([.ref r0, .int a1] : List Value).toArray below meth c H_4 locs_4 0 0 Q (F0 m 0 ls []) := by
    intro N
    induction N with
    | zero => intro wc_4 H_4 locs_4 hh_4  hi_4 hm; exact absurd hm (by omega)
    | succ N L0 =>
      intro wc_4 H_4 locs_4 hh_4  hi_4 hm_4 ls hl
      obtain ⟨hi_4_0, hi_4_1⟩ := hi_4
      refine lv_aload_n hx hb dX1_seek_0 rfl (lv_at hl 0 rfl) ?_
      refine j7_read hx hb hown hK (C := RX1) (T := TX1) (N := 17) rfl hly_3_16 hlk_117 (hh_4.at 0 rfl) dX1_seek_1 ?_
      refine lv_iload_n hx hb dX1_seek_4 rfl (lv_at hl 1 rfl) ?_
      refine lv_icmp_ge (tgt := 63) hx hb dX1_seek_5 (by decide) (fun c_5 => ?_) (fun c_5 => ?_)
      · skip
        have c_5' : wc_4.toInt ≥ a1.toInt := jb_ge (rfl) (rfl) c_5
        rw [hQ]
        exact W.vret hx hb hr (fun t ht hW => ⟨⟨(), rfl, trivial, hh_4.rt (M1 := []) [] rfl ht⟩, by rw [ht]; try exact hh_4.1.1, fun q h9 hq => by rw [ht]; try exact hh_4.1.2.1 q h9 hq⟩) hh_4.1.2.2 dX1_seek_63
      · skip
        have c_5' : wc_4.toInt < a1.toInt := jb_ge_n (rfl) (rfl) c_5
        refine lv_aload_n hx hb dX1_seek_8 rfl (lv_at hl 0 rfl) ?_
        refine j7_read hx hb hown hK (C := RX1) (T := TX1) (N := 17) rfl hly_3_16 hlk_117 (hh_4.at 0 rfl) dX1_seek_9 ?_
        refine lv_aload_n hx hb dX1_seek_12 rfl (lv_at hl 0 rfl) ?_
        refine j7_read hx hb hown hK (C := RX1) (T := TX1) (N := 17) rfl hly_3_3 hlk_42 (hh_4.at 1 rfl) dX1_seek_13 ?_
        refine lv_icmp_ge (tgt := 63) hx hb dX1_seek_16 (by decide) (fun c_6 => ?_) (fun c_6 => ?_)
        · skip
          have c_6' : wc_4.toInt ≥ length_3.toInt := jb_ge (rfl) (rfl) c_6
          rw [hQ]
          exact W.vret hx hb hr (fun t ht hW => ⟨⟨(), rfl, trivial, hh_4.rt (M1 := []) [] rfl ht⟩, by rw [ht]; try exact hh_4.1.1, fun q h9 hq => by rw [ht]; try exact hh_4.1.2.1 q h9 hq⟩) hh_4.1.2.2 dX1_seek_63
        · skip
          have c_6' : wc_4.toInt < length_3.toInt := jb_ge_n (rfl) (rfl) c_6
          refine lv_aload_n hx hb dX1_seek_19 rfl (lv_at hl 0 rfl) ?_
          refine lv_aload_n hx hb dX1_seek_20 rfl (lv_at hl 0 rfl) ?_
          refine j7_read hx hb hown hK (C := RX1) (T := TX1) (N := 17) rfl hly_3_16 hlk_117 (hh_4.at 0 rfl) dX1_seek_21 ?_
          refine va_calli (A0 := jA base) (H0 := s.heap) (va_runV (As := [.int wc_4]) (rest := []) ⟨hx, hb, hml, hown, hts⟩ (uX1_endsLine l dC dI ca base B hB hAp hB3 hB173 G0 H_4 r0 wc_4 n0 length_3) (cwV 1 hts (jgV (jWr_29 _ (List.mem_of_getElem? (i := 6) rfl)) (jWr_29 _ (List.mem_of_getElem? (i := 7) rfl)) (jWr_29 _ (List.mem_of_getElem? (i := 8) rfl)) (jWr_2 _ (List.mem_of_getElem? (i := 21) rfl)) (jWr_29 _ (List.mem_of_getElem? (i := 9) rfl))) rfl rfl rfl (by decide +kernel) ⟨by rw [← hR]; exact Nat.le_of_ble_eq_true rfl, by rw [← hR]; exact Nat.le_of_ble_eq_true rfl⟩) ⟨fun a U g mk q => by obtain ⟨q0, q1, q2, qK, q10, q11, q12⟩ := q; exact ⟨q0, q1, q2, jG.calling g mk a qK, q10, q11, q12⟩, hh_4.recv (C := RX1) (T := TX1) (N := 17) hB3 rfl (by decide) hg_r0 hK, fun U hU hW => ⟨rfl, hU, hh_4.2.1, hG.step hW hU hh_4.1, hg_r0, (hh_4.2.2.1.sub (L1 := [(r0, 3, 3, .int length_3)]) [1] rfl), by first | omega | (refine ⟨?_, ?_, ?_⟩ <;> (first | omega | rfl | assumption | decide | exact Or.inl rfl | exact Or.inr rfl | (simp only; omega)))⟩⟩ rfl rfl hl.1 rfl (lv_room (Nat.le_of_ble_eq_true rfl)) dX1_seek_24 ⟨Nat.zero_le _, Nat.zero_le _⟩) hh_4.1 (fun q _ h => h) (fun q h => h) (fun r_8 u_7 t_7 H_7 locs_7 ht_7 hvm_7 hr_8 hb_7 hz_7 hk_7 hS_7 => ?_)
          rw [ht_7] at hb_7
          obtain ⟨hb_71, hb_72, hb_73, hb_74, hb_75⟩ := hb_7
          have hh_7 : jSt (dC, dI) B base G0 G0 EX1_seek s.heap 0 0 [(r0, 3, 16, .int wc_4), (r0, 3, 3, .int length_3)] [] [] H_7 locs_7 := ((hh_4.call hb_71 hb_72 hb_73 hb_74 hS_7 rfl (L1 := [(r0, 3, 16, .int wc_4), (r0, 3, 3, .int length_3)]) [0, 1] rfl rfl (M1 := []) [] rfl rfl (I1 := []) [] rfl rfl).more hb_75)
          clear hh_4 ht_7 hvm_7 hz_7 hk_7 hS_7 hb_71 hb_72 hb_73 hb_74 hb_75
          obtain ⟨hr_8b, hr_8p⟩ := hr_8
          have hr_8' := jb_01 hr_8b
          refine lv_if_eq (tgt := 50) hx hb dX1_seek_27 (by decide) (fun c_9 => ?_) (fun c_9 => ?_)
          · skip
            have c_9' : r_8.toInt = 0 := jb_eq (rfl) ((by decide)) c_9
            refine lv_aload_n hx hb dX1_seek_50 rfl (lv_at hl 0 rfl) ?_
            refine lv_dup hx hb dX1_seek_51 rfl ?_
            refine j7_read hx hb hown hK (C := RX1) (T := TX1) (N := 17) rfl hly_3_16 hlk_117 (hh_7.at 0 rfl) dX1_seek_52 ?_
            refine lv_iconst (v := 1) hx hb dX1_seek_55 (by decide) ?_
            refine lv_iadd hx hb dX1_seek_56 ?_
            refine lv_topi (fun z_10 ez_10 => ?_)
            have hz_10 : z_10.toInt = wc_4.toInt + 1 := by rw [ez_10]; exact jb_iadd2 (rfl) ((by decide)) (by omega)
            refine j7_put hx hb hown hK hh_7 hB hAp hB3 (C := RX1) (T := TX1) (N := 17) rfl (by decide) hg_r0 (i := 16) (by decide) hly_3_16 rfl hlk_117 rfl (ty := .int) (v := .int z_10) (by decide +kernel) rfl rfl (⟨_, rfl, by omega, by omega⟩) rfl (L1 := [(r0, 3, 3, .int length_3)]) [1] rfl rfl rfl dX1_seek_57 (fun H_11 locs_11 hh_11 => ?_)
            clear hh_7
            refine lv_goto (tgt := 0) hx hb dX1_seek_60 (by decide) ?_
            exact L0 z_10 _ _ hh_11 (by first | omega | (refine ⟨?_, ?_⟩ <;> (first | omega | rfl | assumption | decide | exact Or.inl rfl | exact Or.inr rfl | (simp only; omega)))) (by omega) _ (lv_sub hl [0, 1] rfl)
          · skip
            have c_9' : r_8.toInt ≠ 0 := jb_eq_n (rfl) ((by decide)) c_9
            refine lv_aload_n hx hb dX1_seek_30 rfl (lv_at hl 0 rfl) ?_
            refine lv_dup hx hb dX1_seek_31 rfl ?_
            obtain ⟨v_12, hv_12, hh_13⟩ := hh_7.pin (C := RX1) (T := TX1) (N := 17) hB3 rfl (by decide) hg_r0 (i := 14) (by decide) rfl
            clear hh_7
            obtain ⟨line_14, rfl⟩ := hv_12
            refine j7_read hx hb hown hK (C := RX1) (T := TX1) (N := 17) rfl hly_3_14 hlk_111 (hh_13.at 0 rfl) dX1_seek_32 ?_
            refine lv_iconst (v := 1) hx hb dX1_seek_35 (by decide) ?_
            refine lv_iadd hx hb dX1_seek_36 ?_
            refine lv_topi (fun z_15 ez_15 => ?_)
            refine j7_put hx hb hown hK hh_13 hB hAp hB3 (C := RX1) (T := TX1) (N := 17) rfl (by decide) hg_r0 (i := 14) (by decide) hly_3_14 rfl hlk_111 rfl (ty := .int) (v := .int z_15) (by decide +kernel) rfl rfl (⟨_, rfl⟩) rfl (L1 := [(r0, 3, 16, .int wc_4), (r0, 3, 3, .int length_3)]) [1, 2] rfl rfl rfl dX1_seek_37 (fun H_16 locs_16 hh_16 => ?_)
            clear hh_13
            refine lv_aload_n hx hb dX1_seek_40 rfl (lv_at hl 0 rfl) ?_
            refine lv_aload_n hx hb dX1_seek_41 rfl (lv_at hl 0 rfl) ?_
            refine j7_read hx hb hown hK (C := RX1) (T := TX1) (N := 17) rfl hly_3_16 hlk_117 (hh_16.at 1 rfl) dX1_seek_42 ?_
            refine lv_iconst (v := 1) hx hb dX1_seek_45 (by decide) ?_
            refine lv_iadd hx hb dX1_seek_46 ?_
            refine lv_topi (fun z_17 ez_17 => ?_)
            have hz_17 : z_17.toInt = wc_4.toInt + 1 := by rw [ez_17]; exact jb_iadd2 (rfl) ((by decide)) (by omega)
            refine j7_put hx hb hown hK hh_16 hB hAp hB3 (C := RX1) (T := TX1) (N := 17) rfl (by decide) hg_r0 (i := 15) (by decide) hly_3_15 rfl hlk_114 rfl (ty := .int) (v := .int z_17) (by decide +kernel) rfl rfl (⟨_, rfl⟩) rfl (L1 := [(r0, 3, 14, .int z_15), (r0, 3, 16, .int wc_4), (r0, 3, 3, .int length_3)]) [0, 1, 2] rfl rfl rfl dX1_seek_47 (fun H_18 locs_18 hh_18 => ?_)
            clear hh_16
            refine lv_aload_n hx hb dX1_seek_50 rfl (lv_at hl 0 rfl) ?_
            refine lv_dup hx hb dX1_seek_51 rfl ?_
            refine j7_read hx hb hown hK (C := RX1) (T := TX1) (N := 17) rfl hly_3_16 hlk_117 (hh_18.at 2 rfl) dX1_seek_52 ?_
            refine lv_iconst (v := 1) hx hb dX1_seek_55 (by decide) ?_
            refine lv_iadd hx hb dX1_seek_56 ?_
            refine lv_topi (fun z_19 ez_19 => ?_)
            have hz_19 : z_19.toInt = wc_4.toInt + 1 := by rw [ez_19]; exact jb_iadd2 (rfl) ((by decide)) (by omega)
            refine j7_put hx hb hown hK hh_18 hB hAp hB3 (C := RX1) (T := TX1) (N := 17) rfl (by decide) hg_r0 (i := 16) (by decide) hly_3_16 rfl hlk_117 rfl (ty := .int) (v := .int z_19) (by decide +kernel) rfl rfl (⟨_, rfl, by omega, by omega⟩) rfl (L1 := [(r0, 3, 15, .int z_17), (r0, 3, 14, .int z_15), (r0, 3, 3, .int length_3)]) [0, 1, 3] rfl rfl rfl dX1_seek_57 (fun H_20 locs_20 hh_20 => ?_)
            clear hh_18
            refine lv_goto (tgt := 0) hx hb dX1_seek_60 (by decide) ?_
            exact L0 z_19 _ _ (hh_20.sub (L1 := [(r0, 3, 16, .int z_19), (r0, 3, 3, .int length_3)]) [0, 3] rfl (M1 := []) [] rfl (I1 := []) [] rfl) (by first | omega | (refine ⟨?_, ?_⟩ <;> (first | omega | rfl | assumption | decide | exact Or.inl rfl | exact Or.inr rfl | (simp only; omega)))) (by omega) _ (lv_sub hl [0, 1] rfl)
  obtain ⟨v_21, hv_21, hh_22⟩ := hh_2.pin (C := RX1) (T := TX1) (N := 17) hB3 rfl (by decide) hg_r0 (i := 16) (by decide) rfl
  obtain ⟨cursor_23, rfl, hlocursor_23, hhicursor_23⟩ := hv_21
  exact L0 (((length_3.toInt - (cursor_23 : Int32).toInt).toNat : Int) : Int).toNat.succ cursor_23 _ _ hh_22 (by first | omega | (refine ⟨?_, ?_⟩ <;> (first | omega | rfl | assumption | decide | exact Or.inl rfl | exact Or.inr rfl | (simp only; omega)))) (by omega) _ (lv_sub hl [0, 1] rfl)
set_option maxHeartbeats 4000000 in
set_option maxRecDepth 20000 in
theorem uX1_earlyFault (l : Launch) (dC : Nat → ClassId) (dI : Nat → Nat → Nat) (ca : Nat → ClassId) (base : Nat) (B : jF) (hB : jBok B) (hAp : jAp (dC, dI)) (hB3 : ∀ n G a H, B 3 n G a H ↔ jOb (dC, dI) 3 17 (F3 n G) a H) (hB177 : ∀ n G a H, B 177 n G a H ↔ jAr (dC, dI) (ca 1) (fun j z => True) n a H) (G0 : jT) (H0 : Heap) (r0 : Nat) : Met l yX1_earlyFault (jw yX1_earlyFault cX1_earlyFault 1 (some .int)) ({ frames := 0, cells := 0, slots := 0, locals := 0 }) (va_Pc [.ref r0] (fun U => U.heap = H0 ∧ jX B base G0 [] H0 ∧ jG dC dI ca base U ∧ G0 r0 = some (3, 0) ∧ jP (dC, dI) G0 H0 [] ∧ True)) (va_Qi (S := Unit) (fun r u => (True)) (fun u t => jRt (dC, dI) B base G0 EX1_earlyFault H0 [] t.heap) (jA base)) 0 0 (jA base) := by
  refine Met.ofW (cc := cX1_earlyFault) (maxL := 1) (ret := (some .int)) (by decide) rfl ?_
  intro p e s m args below meth c s₁ Bd hml hv
  obtain ⟨rfl, hH0, hX, hG, hg_r0, hP0, hp0⟩ := hv
  have hK := hG.1
  have hx := Bd.exec
  have hb := Bd.bytes
  have hr := Bd.returns
  have hts := atoms_spec (ws := (jw yX1_earlyFault cX1_earlyFault 1 (some .int))) Bd.pre
  have htw : ∀ w ∈ jWl, w.before _ s = true := fun w h => hts w (List.mem_cons_of_mem _ h)
  have hown : s.vm.findClass RX1 = some m.cls := findClass_of_methodNamed Bd.named
  have hlocks := Bd.notSynchronized
  obtain ⟨Q, hQ⟩ : ∃ Q, Q = MQ below (va_Qi (S := Unit) (fun r u => (True)) (fun u t => jRt (dC, dI) B base G0 EX1_earlyFault H0 [] t.heap) (jA base)) ([.ref r0] : List Value).toArray s 0 0 (jA base) := ⟨_, rfl⟩
  rw [← hQ]
  have hl := lv_entry ([.ref r0]) (n := 1) (Nat.le_of_ble_eq_true rfl)
  rw [lg_entry_eq]
  generalize (lg_sl ([.ref r0]) ++ List.replicate (1 - (lg_sl ([.ref r0])).length) Slot.unset).toArray = ls at hl ⊢
  have hl : lv_has ls 1 [(0, .ref r0)] := hl
  generalize hR : (headSpec (jw yX1_earlyFault cX1_earlyFault 1 (some .int)) ({ frames := 0, cells := 0, slots := 0, locals := 0 })).room = R
  subst hH0
  have hh : jSt (dC, dI) B base G0 G0 EX1_earlyFault s.heap 0 0 [] [] [] s.heap [] := jSt.start hX hP0 jMc.nil jIs.nil
  clear hX hP0
  have hk0 : (0 : Int32).toInt = 0 := by decide
  have hk1 : (1 : Int32).toInt = 1 := by decide
  have hly_3_4 := htw (u_lay RX1 TX1 4) (jWc_wsX10 _ (u_in_lay (by decide)))
  have hly_3_8 := htw (u_lay RX1 TX1 8) (jWc_wsX10 _ (u_in_lay (by decide)))
  have hly_3_10 := htw (u_lay RX1 TX1 10) (jWc_wsX10 _ (u_in_lay (by decide)))
  have hlk_72 := (htw (.fieldLink RX1 72 "ProofServer$Document" "checked" "I") (jWr_42 _ (List.mem_of_getElem? (i := 20) rfl)))
  have hlk_69 := (htw (.fieldLink RX1 69 "ProofServer$Document" "sentences" "I") (jWr_29 _ (List.mem_of_getElem? (i := 14) rfl)))
  have hlk_27 := (htw (.fieldLink RX1 27 "ProofServer$Document" "early" "[I") (jWr_10 _ (List.mem_of_getElem? (i := 10) rfl)))
  refine lv_aload_n hx hb dX1_earlyFault_0 rfl (lv_at hl 0 rfl) ?_
  obtain ⟨v_1, hv_1, hh_2⟩ := hh.pin (C := RX1) (T := TX1) (N := 17) hB3 rfl (by decide) hg_r0 (i := 10) (by decide) rfl
  clear hh
  obtain ⟨checked_3, rfl, hlochecked_3, hhichecked_3⟩ := hv_1
  refine j7_read hx hb hown hK (C := RX1) (T := TX1) (N := 17) rfl hly_3_10 hlk_72 (hh_2.at 0 rfl) dX1_earlyFault_1 ?_
  refine lv_aload_n hx hb dX1_earlyFault_4 rfl (lv_at hl 0 rfl) ?_
  obtain ⟨v_4, hv_4, hh_5⟩ := hh_2.pin (C := RX1) (T := TX1) (N := 17) hB3 rfl (by decide) hg_r0 (i := 4) (by decide) rfl
  clear hh_2
  obtain ⟨sentences_6, rfl, hlosentences_6, hhisentences_6⟩ := hv_4
  refine j7_read hx hb hown hK (C := RX1) (T := TX1) (N := 17) rfl hly_3_4 hlk_69 (hh_5.at 0 rfl) dX1_earlyFault_5 ?_
  refine lv_icmp_ge (tgt := 23) hx hb dX1_earlyFault_8 (by decide) (fun c_7 => ?_) (fun c_7 => ?_)
  · skip
    have c_7' : checked_3.toInt ≥ sentences_6.toInt := jb_ge (rfl) (rfl) c_7
    refine lv_iconst (v := 0) hx hb dX1_earlyFault_23 (by decide) ?_
    rw [hQ]
    exact W.iret (v := 0) hx hb hr (fun t ht hW => ⟨⟨0, (), rfl, trivial, hh_5.rt (M1 := []) [] rfl ht⟩, by rw [ht]; try exact hh_5.1.1, fun q h9 hq => by rw [ht]; try exact hh_5.1.2.1 q h9 hq⟩) hh_5.1.2.2 dX1_earlyFault_24
  · skip
    have c_7' : checked_3.toInt < sentences_6.toInt := jb_ge_n (rfl) (rfl) c_7
    refine lv_aload_n hx hb dX1_earlyFault_11 rfl (lv_at hl 0 rfl) ?_
    obtain ⟨v_8, hv_8, hh_9⟩ := hh_5.pin (C := RX1) (T := TX1) (N := 17) hB3 rfl (by decide) hg_r0 (i := 8) (by decide) rfl
    clear hh_5
    obtain ⟨early_10, rfl, hg_early_10⟩ := hv_8
    refine j7_read hx hb hown hK (C := RX1) (T := TX1) (N := 17) rfl hly_3_8 hlk_27 (hh_9.at 0 rfl) dX1_earlyFault_12 ?_
    refine lv_aload_n hx hb dX1_earlyFault_15 rfl (lv_at hl 0 rfl) ?_
    refine j7_read hx hb hown hK (C := RX1) (T := TX1) (N := 17) rfl hly_3_10 hlk_72 (hh_9.at 2 rfl) dX1_earlyFault_16 ?_
    refine j7_iald hx hb hK hh_9 hB177 1 rfl (by decide) hg_early_10 (x := checked_3.toInt) (rfl) (by omega) dX1_earlyFault_19 (fun z_11 (hz_11 : True) => ?_)
    refine lv_goto (tgt := 24) hx hb dX1_earlyFault_20 (by decide) ?_
    rw [hQ]
    exact W.iret (v := z_11) hx hb hr (fun t ht hW => ⟨⟨z_11, (), rfl, trivial, hh_9.rt (M1 := []) [] rfl ht⟩, by rw [ht]; try exact hh_9.1.1, fun q h9 hq => by rw [ht]; try exact hh_9.1.2.1 q h9 hq⟩) hh_9.1.2.2 dX1_earlyFault_24
end
section
theorem dX5_leadingBound_0 : decode cX5_leadingBound 0 = .ok (.iconst 0, 1) := by decide +kernel
theorem dX5_leadingBound_1 : decode cX5_leadingBound 1 = .ok (.istore_n 1, 1) := by decide +kernel
theorem dX5_leadingBound_2 : decode cX5_leadingBound 2 = .ok (.iload_n 1, 1) := by decide +kernel
theorem dX5_leadingBound_3 : decode cX5_leadingBound 3 = .ok (.aload_n 0, 1) := by decide +kernel
theorem dX5_leadingBound_4 : decode cX5_leadingBound 4 = .ok (.arraylength, 1) := by decide +kernel
theorem dX5_leadingBound_5 : decode cX5_leadingBound 5 = .ok (.if_icmp .ge 25, 3) := by decide +kernel
theorem dX5_leadingBound_8 : decode cX5_leadingBound 8 = .ok (.iload_n 1, 1) := by decide +kernel
theorem dX5_leadingBound_9 : decode cX5_leadingBound 9 = .ok (.bipush 12, 2) := by decide +kernel
theorem dX5_leadingBound_11 : decode cX5_leadingBound 11 = .ok (.if_icmp .ge 19, 3) := by decide +kernel
theorem dX5_leadingBound_14 : decode cX5_leadingBound 14 = .ok (.aload_n 0, 1) := by decide +kernel
theorem dX5_leadingBound_15 : decode cX5_leadingBound 15 = .ok (.iload_n 1, 1) := by decide +kernel
theorem dX5_leadingBound_16 : decode cX5_leadingBound 16 = .ok (.iaload, 1) := by decide +kernel
theorem dX5_leadingBound_17 : decode cX5_leadingBound 17 = .ok (.bipush 15, 2) := by decide +kernel
theorem dX5_leadingBound_19 : decode cX5_leadingBound 19 = .ok (.iand, 1) := by decide +kernel
theorem dX5_leadingBound_20 : decode cX5_leadingBound 20 = .ok (.iconst 5, 1) := by decide +kernel
theorem dX5_leadingBound_21 : decode cX5_leadingBound 21 = .ok (.if_icmp .ne 9, 3) := by decide +kernel
theorem dX5_leadingBound_24 : decode cX5_leadingBound 24 = .ok (.iinc 1 1, 3) := by decide +kernel
theorem dX5_leadingBound_27 : decode cX5_leadingBound 27 = .ok (.goto (-25), 3) := by decide +kernel
theorem dX5_leadingBound_30 : decode cX5_leadingBound 30 = .ok (.iload_n 1, 1) := by decide +kernel
theorem dX5_leadingBound_31 : decode cX5_leadingBound 31 = .ok (.ireturn, 1) := by decide +kernel
theorem dX5_areSame_0 : decode cX5_areSame 0 = .ok (.aload_n 0, 1) := by decide +kernel
theorem dX5_areSame_1 : decode cX5_areSame 1 = .ok (.arraylength, 1) := by decide +kernel
theorem dX5_areSame_2 : decode cX5_areSame 2 = .ok (.aload_n 1, 1) := by decide +kernel
theorem dX5_areSame_3 : decode cX5_areSame 3 = .ok (.arraylength, 1) := by decide +kernel
theorem dX5_areSame_4 : decode cX5_areSame 4 = .ok (.if_icmp .eq 5, 3) := by decide +kernel
theorem dX5_areSame_7 : decode cX5_areSame 7 = .ok (.iconst 0, 1) := by decide +kernel
theorem dX5_areSame_8 : decode cX5_areSame 8 = .ok (.ireturn, 1) := by decide +kernel
theorem dX5_areSame_9 : decode cX5_areSame 9 = .ok (.iconst 0, 1) := by decide +kernel
theorem dX5_areSame_10 : decode cX5_areSame 10 = .ok (.istore_n 2, 1) := by decide +kernel
theorem dX5_areSame_11 : decode cX5_areSame 11 = .ok (.iload_n 2, 1) := by decide +kernel
theorem dX5_areSame_12 : decode cX5_areSame 12 = .ok (.aload_n 0, 1) := by decide +kernel
theorem dX5_areSame_13 : decode cX5_areSame 13 = .ok (.arraylength, 1) := by decide +kernel
theorem dX5_areSame_14 : decode cX5_areSame 14 = .ok (.if_icmp .ge 23, 3) := by decide +kernel
theorem dX5_areSame_17 : decode cX5_areSame 17 = .ok (.aload_n 0, 1) := by decide +kernel
theorem dX5_areSame_18 : decode cX5_areSame 18 = .ok (.iload_n 2, 1) := by decide +kernel
theorem dX5_areSame_19 : decode cX5_areSame 19 = .ok (.iaload, 1) := by decide +kernel
theorem dX5_areSame_20 : decode cX5_areSame 20 = .ok (.aload_n 1, 1) := by decide +kernel
theorem dX5_areSame_21 : decode cX5_areSame 21 = .ok (.iload_n 2, 1) := by decide +kernel
theorem dX5_areSame_22 : decode cX5_areSame 22 = .ok (.iaload, 1) := by decide +kernel
theorem dX5_areSame_23 : decode cX5_areSame 23 = .ok (.invokestatic 291, 3) := by decide +kernel
theorem dX5_areSame_26 : decode cX5_areSame 26 = .ok (.ifCond .ne 5, 3) := by decide +kernel
theorem dX5_areSame_29 : decode cX5_areSame 29 = .ok (.iconst 0, 1) := by decide +kernel
theorem dX5_areSame_30 : decode cX5_areSame 30 = .ok (.ireturn, 1) := by decide +kernel
theorem dX5_areSame_31 : decode cX5_areSame 31 = .ok (.iinc 2 1, 3) := by decide +kernel
theorem dX5_areSame_34 : decode cX5_areSame 34 = .ok (.goto (-23), 3) := by decide +kernel
theorem dX5_areSame_37 : decode cX5_areSame 37 = .ok (.iconst 1, 1) := by decide +kernel
theorem dX5_areSame_38 : decode cX5_areSame 38 = .ok (.ireturn, 1) := by decide +kernel
theorem dX5_standsAt_0 : decode cX5_standsAt 0 = .ok (.iload_n 1, 1) := by decide +kernel
theorem dX5_standsAt_1 : decode cX5_standsAt 1 = .ok (.ifCond .lt 25, 3) := by decide +kernel
theorem dX5_standsAt_4 : decode cX5_standsAt 4 = .ok (.iload_n 3, 1) := by decide +kernel
theorem dX5_standsAt_5 : decode cX5_standsAt 5 = .ok (.ifCond .lt 21, 3) := by decide +kernel
theorem dX5_standsAt_8 : decode cX5_standsAt 8 = .ok (.iload_n 1, 1) := by decide +kernel
theorem dX5_standsAt_9 : decode cX5_standsAt 9 = .ok (.iload 4, 2) := by decide +kernel
theorem dX5_standsAt_11 : decode cX5_standsAt 11 = .ok (.iadd, 1) := by decide +kernel
theorem dX5_standsAt_12 : decode cX5_standsAt 12 = .ok (.aload_n 0, 1) := by decide +kernel
theorem dX5_standsAt_13 : decode cX5_standsAt 13 = .ok (.arraylength, 1) := by decide +kernel
theorem dX5_standsAt_14 : decode cX5_standsAt 14 = .ok (.if_icmp .gt 12, 3) := by decide +kernel
theorem dX5_standsAt_17 : decode cX5_standsAt 17 = .ok (.iload_n 3, 1) := by decide +kernel
theorem dX5_standsAt_18 : decode cX5_standsAt 18 = .ok (.iload 4, 2) := by decide +kernel
theorem dX5_standsAt_20 : decode cX5_standsAt 20 = .ok (.iadd, 1) := by decide +kernel
theorem dX5_standsAt_21 : decode cX5_standsAt 21 = .ok (.aload_n 2, 1) := by decide +kernel
theorem dX5_standsAt_22 : decode cX5_standsAt 22 = .ok (.arraylength, 1) := by decide +kernel
theorem dX5_standsAt_23 : decode cX5_standsAt 23 = .ok (.if_icmp .le 5, 3) := by decide +kernel
theorem dX5_standsAt_26 : decode cX5_standsAt 26 = .ok (.iconst 0, 1) := by decide +kernel
theorem dX5_standsAt_27 : decode cX5_standsAt 27 = .ok (.ireturn, 1) := by decide +kernel
theorem dX5_standsAt_28 : decode cX5_standsAt 28 = .ok (.iconst 0, 1) := by decide +kernel
theorem dX5_standsAt_29 : decode cX5_standsAt 29 = .ok (.istore 5, 2) := by decide +kernel
theorem dX5_standsAt_31 : decode cX5_standsAt 31 = .ok (.iload 5, 2) := by decide +kernel
theorem dX5_standsAt_33 : decode cX5_standsAt 33 = .ok (.iload 4, 2) := by decide +kernel
theorem dX5_standsAt_35 : decode cX5_standsAt 35 = .ok (.if_icmp .ge 26, 3) := by decide +kernel
theorem dX5_standsAt_38 : decode cX5_standsAt 38 = .ok (.aload_n 0, 1) := by decide +kernel
theorem dX5_standsAt_39 : decode cX5_standsAt 39 = .ok (.iload_n 1, 1) := by decide +kernel
theorem dX5_standsAt_40 : decode cX5_standsAt 40 = .ok (.iload 5, 2) := by decide +kernel
theorem dX5_standsAt_42 : decode cX5_standsAt 42 = .ok (.iadd, 1) := by decide +kernel
theorem dX5_standsAt_43 : decode cX5_standsAt 43 = .ok (.iaload, 1) := by decide +kernel
theorem dX5_standsAt_44 : decode cX5_standsAt 44 = .ok (.aload_n 2, 1) := by decide +kernel
theorem dX5_standsAt_45 : decode cX5_standsAt 45 = .ok (.iload_n 3, 1) := by decide +kernel
theorem dX5_standsAt_46 : decode cX5_standsAt 46 = .ok (.iload 5, 2) := by decide +kernel
theorem dX5_standsAt_48 : decode cX5_standsAt 48 = .ok (.iadd, 1) := by decide +kernel
theorem dX5_standsAt_49 : decode cX5_standsAt 49 = .ok (.iaload, 1) := by decide +kernel
theorem dX5_standsAt_50 : decode cX5_standsAt 50 = .ok (.if_icmp .eq 5, 3) := by decide +kernel
theorem dX5_standsAt_53 : decode cX5_standsAt 53 = .ok (.iconst 0, 1) := by decide +kernel
theorem dX5_standsAt_54 : decode cX5_standsAt 54 = .ok (.ireturn, 1) := by decide +kernel
theorem dX5_standsAt_55 : decode cX5_standsAt 55 = .ok (.iinc 5 1, 3) := by decide +kernel
theorem dX5_standsAt_58 : decode cX5_standsAt 58 = .ok (.goto (-27), 3) := by decide +kernel
theorem dX5_standsAt_61 : decode cX5_standsAt 61 = .ok (.iconst 1, 1) := by decide +kernel
theorem dX5_standsAt_62 : decode cX5_standsAt 62 = .ok (.ireturn, 1) := by decide +kernel
theorem dX9_find_0 : decode cX9_find 0 = .ok (.iconst 0, 1) := by decide +kernel
theorem dX9_find_1 : decode cX9_find 1 = .ok (.istore_n 2, 1) := by decide +kernel
theorem dX9_find_2 : decode cX9_find 2 = .ok (.iload_n 2, 1) := by decide +kernel
theorem dX9_find_3 : decode cX9_find 3 = .ok (.aload_n 0, 1) := by decide +kernel
theorem dX9_find_4 : decode cX9_find 4 = .ok (.arraylength, 1) := by decide +kernel
theorem dX9_find_5 : decode cX9_find 5 = .ok (.if_icmp .ge 18, 3) := by decide +kernel
theorem dX9_find_8 : decode cX9_find 8 = .ok (.aload_n 0, 1) := by decide +kernel
theorem dX9_find_9 : decode cX9_find 9 = .ok (.iload_n 2, 1) := by decide +kernel
theorem dX9_find_10 : decode cX9_find 10 = .ok (.iaload, 1) := by decide +kernel
theorem dX9_find_11 : decode cX9_find 11 = .ok (.iload_n 1, 1) := by decide +kernel
theorem dX9_find_12 : decode cX9_find 12 = .ok (.if_icmp .ne 5, 3) := by decide +kernel
theorem dX9_find_15 : decode cX9_find 15 = .ok (.iload_n 2, 1) := by decide +kernel
theorem dX9_find_16 : decode cX9_find 16 = .ok (.ireturn, 1) := by decide +kernel
theorem dX9_find_17 : decode cX9_find 17 = .ok (.iinc 2 1, 3) := by decide +kernel
theorem dX9_find_20 : decode cX9_find 20 = .ok (.goto (-18), 3) := by decide +kernel
theorem dX9_find_23 : decode cX9_find 23 = .ok (.iconst (-1), 1) := by decide +kernel
theorem dX9_find_24 : decode cX9_find 24 = .ok (.ireturn, 1) := by decide +kernel
theorem dX11_endOf_0 : decode cX11_endOf 0 = .ok (.iconst 1, 1) := by decide +kernel
theorem dX11_endOf_1 : decode cX11_endOf 1 = .ok (.istore_n 3, 1) := by decide +kernel
theorem dX11_endOf_2 : decode cX11_endOf 2 = .ok (.iload_n 1, 1) := by decide +kernel
theorem dX11_endOf_3 : decode cX11_endOf 3 = .ok (.istore 4, 2) := by decide +kernel
theorem dX11_endOf_5 : decode cX11_endOf 5 = .ok (.iload 4, 2) := by decide +kernel
theorem dX11_endOf_7 : decode cX11_endOf 7 = .ok (.iload_n 2, 1) := by decide +kernel
theorem dX11_endOf_8 : decode cX11_endOf 8 = .ok (.if_icmp .ge 95, 3) := by decide +kernel
theorem dX11_endOf_11 : decode cX11_endOf 11 = .ok (.iload 4, 2) := by decide +kernel
theorem dX11_endOf_13 : decode cX11_endOf 13 = .ok (.aload_n 0, 1) := by decide +kernel
theorem dX11_endOf_14 : decode cX11_endOf 14 = .ok (.arraylength, 1) := by decide +kernel
theorem dX11_endOf_15 : decode cX11_endOf 15 = .ok (.if_icmp .ge 88, 3) := by decide +kernel
theorem dX11_endOf_18 : decode cX11_endOf 18 = .ok (.iload_n 3, 1) := by decide +kernel
theorem dX11_endOf_19 : decode cX11_endOf 19 = .ok (.ifCond .le 84, 3) := by decide +kernel
theorem dX11_endOf_22 : decode cX11_endOf 22 = .ok (.aload_n 0, 1) := by decide +kernel
theorem dX11_endOf_23 : decode cX11_endOf 23 = .ok (.iload 4, 2) := by decide +kernel
theorem dX11_endOf_25 : decode cX11_endOf 25 = .ok (.iaload, 1) := by decide +kernel
theorem dX11_endOf_26 : decode cX11_endOf 26 = .ok (.bipush 15, 2) := by decide +kernel
theorem dX11_endOf_28 : decode cX11_endOf 28 = .ok (.iand, 1) := by decide +kernel
theorem dX11_endOf_29 : decode cX11_endOf 29 = .ok (.istore 5, 2) := by decide +kernel
theorem dX11_endOf_31 : decode cX11_endOf 31 = .ok (.iload 5, 2) := by decide +kernel
theorem dX11_endOf_33 : decode cX11_endOf 33 = .ok (.iconst 1, 1) := by decide +kernel
theorem dX11_endOf_34 : decode cX11_endOf 34 = .ok (.if_icmp .lt 15, 3) := by decide +kernel
theorem dX11_endOf_37 : decode cX11_endOf 37 = .ok (.iload 5, 2) := by decide +kernel
theorem dX11_endOf_39 : decode cX11_endOf 39 = .ok (.iconst 4, 1) := by decide +kernel
theorem dX11_endOf_40 : decode cX11_endOf 40 = .ok (.if_icmp .gt 9, 3) := by decide +kernel
theorem dX11_endOf_43 : decode cX11_endOf 43 = .ok (.iinc 3 1, 3) := by decide +kernel
theorem dX11_endOf_46 : decode cX11_endOf 46 = .ok (.goto 51, 3) := by decide +kernel
theorem dX11_endOf_49 : decode cX11_endOf 49 = .ok (.iload 5, 2) := by decide +kernel
theorem dX11_endOf_51 : decode cX11_endOf 51 = .ok (.bipush 7, 2) := by decide +kernel
theorem dX11_endOf_53 : decode cX11_endOf 53 = .ok (.if_icmp .eq 10, 3) := by decide +kernel
theorem dX11_endOf_56 : decode cX11_endOf 56 = .ok (.iload 5, 2) := by decide +kernel
theorem dX11_endOf_58 : decode cX11_endOf 58 = .ok (.bipush 8, 2) := by decide +kernel
theorem dX11_endOf_60 : decode cX11_endOf 60 = .ok (.if_icmp .ne 21, 3) := by decide +kernel
theorem dX11_endOf_63 : decode cX11_endOf 63 = .ok (.iload_n 3, 1) := by decide +kernel
theorem dX11_endOf_64 : decode cX11_endOf 64 = .ok (.aload_n 0, 1) := by decide +kernel
theorem dX11_endOf_65 : decode cX11_endOf 65 = .ok (.iload 4, 2) := by decide +kernel
theorem dX11_endOf_67 : decode cX11_endOf 67 = .ok (.iaload, 1) := by decide +kernel
theorem dX11_endOf_68 : decode cX11_endOf 68 = .ok (.iconst 4, 1) := by decide +kernel
theorem dX11_endOf_69 : decode cX11_endOf 69 = .ok (.ishr, 1) := by decide +kernel
theorem dX11_endOf_70 : decode cX11_endOf 70 = .ok (.sipush 2047, 3) := by decide +kernel
theorem dX11_endOf_73 : decode cX11_endOf 73 = .ok (.iand, 1) := by decide +kernel
theorem dX11_endOf_74 : decode cX11_endOf 74 = .ok (.iconst 1, 1) := by decide +kernel
theorem dX11_endOf_75 : decode cX11_endOf 75 = .ok (.isub, 1) := by decide +kernel
theorem dX11_endOf_76 : decode cX11_endOf 76 = .ok (.iadd, 1) := by decide +kernel
theorem dX11_endOf_77 : decode cX11_endOf 77 = .ok (.istore_n 3, 1) := by decide +kernel
theorem dX11_endOf_78 : decode cX11_endOf 78 = .ok (.goto 19, 3) := by decide +kernel
theorem dX11_endOf_81 : decode cX11_endOf 81 = .ok (.iload 5, 2) := by decide +kernel
theorem dX11_endOf_83 : decode cX11_endOf 83 = .ok (.iconst 5, 1) := by decide +kernel
theorem dX11_endOf_84 : decode cX11_endOf 84 = .ok (.if_icmp .eq 13, 3) := by decide +kernel
theorem dX11_endOf_87 : decode cX11_endOf 87 = .ok (.iload 5, 2) := by decide +kernel
theorem dX11_endOf_89 : decode cX11_endOf 89 = .ok (.bipush 6, 2) := by decide +kernel
theorem dX11_endOf_91 : decode cX11_endOf 91 = .ok (.if_icmp .eq 6, 3) := by decide +kernel
theorem dX11_endOf_94 : decode cX11_endOf 94 = .ok (.iinc 3 (-1), 3) := by decide +kernel
theorem dX11_endOf_97 : decode cX11_endOf 97 = .ok (.iinc 4 1, 3) := by decide +kernel
theorem dX11_endOf_100 : decode cX11_endOf 100 = .ok (.goto (-95), 3) := by decide +kernel
theorem dX11_endOf_103 : decode cX11_endOf 103 = .ok (.iload 4, 2) := by decide +kernel
theorem dX11_endOf_105 : decode cX11_endOf 105 = .ok (.ireturn, 1) := by decide +kernel
def EX9_find : List (Nat × Nat) := []
set_option maxHeartbeats 4000000 in
set_option maxRecDepth 20000 in
theorem uX9_find (l : Launch) (dC : Nat → ClassId) (dI : Nat → Nat → Nat) (ca : Nat → ClassId) (base : Nat) (B : jF) (hB : jBok B) (hAp : jAp (dC, dI)) (hB101 : ∀ n G a H, B 101 n G a H ↔ jAr (dC, dI) (ca 1) (fun j z => True) n a H) (G0 : jT) (H0 : Heap) (r0 : Nat) (a1 : Int32) (n0 : Nat) : Met l yX9_find (jw yX9_find cX9_find 3 (some .int)) ({ frames := 0, cells := 0, slots := 0, locals := 0 }) (va_Pc [.ref r0, .int a1] (fun U => U.heap = H0 ∧ jX B base G0 [] H0 ∧ jG dC dI ca base U ∧ G0 r0 = some (101, n0) ∧ jP (dC, dI) G0 H0 [] ∧ n0 < 2147483648)) (va_Qi (S := Unit) (fun r u => (-1 ≤ r.toInt ∧ r.toInt < n0)) (fun u t => jRt (dC, dI) B base G0 EX9_find H0 [] t.heap) (jA base)) 0 0 (jA base) := by
  refine Met.ofW (cc := cX9_find) (maxL := 3) (ret := (some .int)) (by decide) rfl ?_
  intro p e s m args below meth c s₁ Bd hml hv
  obtain ⟨rfl, hH0, hX, hG, hg_r0, hP0, hp0⟩ := hv
  have hK := hG.1
  have hx := Bd.exec
  have hb := Bd.bytes
  have hr := Bd.returns
  have hts := atoms_spec (ws := (jw yX9_find cX9_find 3 (some .int))) Bd.pre
  have htw : ∀ w ∈ jWl, w.before _ s = true := fun w h => hts w (List.mem_cons_of_mem _ h)
  have hown : s.vm.findClass RX9 = some m.cls := findClass_of_methodNamed Bd.named
  have hlocks := Bd.notSynchronized
  obtain ⟨Q, hQ⟩ : ∃ Q, Q = MQ below (va_Qi (S := Unit) (fun r u => (-1 ≤ r.toInt ∧ r.toInt < n0)) (fun u t => jRt (dC, dI) B base G0 EX9_find H0 [] t.heap) (jA base)) ([.ref r0, .int a1] : List Value).toArray s 0 0 (jA base) := ⟨_, rfl⟩
  rw [← hQ]
  have hl := lv_entry ([.ref r0, .int a1]) (n := 3) (Nat.le_of_ble_eq_true rfl)
  rw [lg_entry_eq]
  generalize (lg_sl ([.ref r0, .int a1]) ++ List.replicate (3 - (lg_sl ([.ref r0, .int a1])).length) Slot.unset).toArray = ls at hl ⊢
  have hl : lv_has ls 3 [(0, .ref r0), (1, .int a1)] := hl
  generalize hR : (headSpec (jw yX9_find cX9_find 3 (some .int)) ({ frames := 0, cells := 0, slots := 0, locals := 0 })).room = R
  subst hH0
  have hh : jSt (dC, dI) B base G0 G0 EX9_find s.heap 0 0 [] [] [] s.heap [] := jSt.start hX hP0 jMc.nil jIs.nil
  clear hX hP0
  have hkm1 : ((-1) : Int32).toInt = (-1) := by decide
  have hk0 : (0 : Int32).toInt = 0 := by decide
  have hk1 : (1 : Int32).toInt = 1 := by decide
  have hrg_a1 := jb_rng a1
  refine lv_iconst (v := 0) hx hb dX9_find_0 (by decide) ?_
  refine lv_istore_n (lv' := [(2, .int 0), (0, .ref r0), (1, .int a1)]) hx hb dX9_find_1 rfl hl (by decide) rfl (fun ls hl => ?_)
  have L2 : ∀ (N : Nat) (v2_1 : Int32) (H_1 : Heap) (locs_1 : List Loc), jSt (dC, dI) B base G0 G0 EX9_find s.heap 0 0 [] [] [] H_1 locs_1 → (0 ≤ v2_1.toInt ∧ v2_1.toInt ≤ n0) → (n0 - v2_1.toInt : Int) < N → ∀ ls : Array Slot, lv_has ls 3 [(0, .ref r0), (1, .int a1), (2, .int v2_1)] → W p l e R s m ([.ref r0, .int a1] : List Value).toArray below meth c H_1 locs_1 0 0 Q (F0 m 2 ls []) := by
    intro N
    induction N with
    | zero => intro v2_1 H_1 locs_1 hh_1  hi_1 hm; exact absurd hm (by omega)
    | succ N L2 =>
      intro v2_1 H_1 locs_1 hh_1  hi_1 hm_1 ls hl
      obtain ⟨hi_1_0, hi_1_1⟩ := hi_1
      refine lv_iload_n hx hb dX9_find_2 rfl (lv_at hl 2 rfl) ?_
      refine lv_aload_n hx hb dX9_find_3 rfl (lv_at hl 0 rfl) ?_
      refine j7_len hx hb hK hh_1 hB101 1 rfl (by decide) hg_r0 (by omega) dX9_find_4 (fun z_2 hz_2 => ?_)
      refine lv_icmp_ge (tgt := 23) hx hb dX9_find_5 (by decide) (fun c_3 => ?_) (fun c_3 => ?_)
      · skip
        have c_3' : v2_1.toInt ≥ z_2.toInt := jb_ge (rfl) (rfl) c_3
        refine lv_iconst (v := (-1)) hx hb dX9_find_23 (by decide) ?_
        rw [hQ]
        exact W.iret (v := (-1)) hx hb hr (fun t ht hW => ⟨⟨(-1), (), rfl, by first | omega | (refine ⟨?_, ?_⟩ <;> (first | omega | rfl | assumption | decide | exact Or.inl rfl | exact Or.inr rfl | (simp only; omega))), hh_1.rt (M1 := []) [] rfl ht⟩, by rw [ht]; try exact hh_1.1.1, fun q h9 hq => by rw [ht]; try exact hh_1.1.2.1 q h9 hq⟩) hh_1.1.2.2 dX9_find_24
      · skip
        have c_3' : v2_1.toInt < z_2.toInt := jb_ge_n (rfl) (rfl) c_3
        refine lv_aload_n hx hb dX9_find_8 rfl (lv_at hl 0 rfl) ?_
        refine lv_iload_n hx hb dX9_find_9 rfl (lv_at hl 2 rfl) ?_
        refine j7_iald hx hb hK hh_1 hB101 1 rfl (by decide) hg_r0 (x := v2_1.toInt) (rfl) (by omega) dX9_find_10 (fun z_4 (hz_4 : True) => ?_)
        refine lv_iload_n hx hb dX9_find_11 rfl (lv_at hl 1 rfl) ?_
        refine lv_icmp_ne (tgt := 17) hx hb dX9_find_12 (by decide) (fun c_5 => ?_) (fun c_5 => ?_)
        · skip
          have c_5' : z_4.toInt ≠ a1.toInt := jb_ne (rfl) (rfl) c_5
          obtain ⟨z_6, ez_6⟩ : ∃ y : Int32, y = v2_1 + 1 := ⟨_, rfl⟩
          refine lv_iinc (v := z_6) (lv' := [(2, .int z_6), (0, .ref r0), (1, .int a1)]) hx hb dX9_find_17 hl (k := 2) rfl (by rw [ez_6]; rfl) (by decide) rfl (fun ls hl => ?_)
          have hz_6 : z_6.toInt = v2_1.toInt + 1 := by rw [ez_6]; exact jb_iadd2 (rfl) (by decide) (by omega)
          refine lv_goto (tgt := 2) hx hb dX9_find_20 (by decide) ?_
          exact L2 z_6 _ _ hh_1 (by first | omega | (refine ⟨?_, ?_⟩ <;> (first | omega | rfl | assumption | decide | exact Or.inl rfl | exact Or.inr rfl | (simp only; omega)))) (by omega) _ (lv_sub hl [1, 2, 0] rfl)
        · skip
          have c_5' : z_4.toInt = a1.toInt := jb_ne_n (rfl) (rfl) c_5
          refine lv_iload_n hx hb dX9_find_15 rfl (lv_at hl 2 rfl) ?_
          rw [hQ]
          exact W.iret (v := v2_1) hx hb hr (fun t ht hW => ⟨⟨v2_1, (), rfl, by first | omega | (refine ⟨?_, ?_⟩ <;> (first | omega | rfl | assumption | decide | exact Or.inl rfl | exact Or.inr rfl | (simp only; omega))), hh_1.rt (M1 := []) [] rfl ht⟩, by rw [ht]; try exact hh_1.1.1, fun q h9 hq => by rw [ht]; try exact hh_1.1.2.1 q h9 hq⟩) hh_1.1.2.2 dX9_find_16
  exact L2 (n0 - (0 : Int32).toInt : Int).toNat.succ 0 _ _ hh (by first | omega | (refine ⟨?_, ?_⟩ <;> (first | omega | rfl | assumption | decide | exact Or.inl rfl | exact Or.inr rfl | (simp only; omega)))) (by omega) _ (lv_sub hl [1, 2, 0] rfl)
end
section
theorem dX7_push_0 : decode cX7_push 0 = .ok (.aload_n 0, 1) := by decide +kernel
theorem dX7_push_1 : decode cX7_push 1 = .ok (.getfield 103, 3) := by decide +kernel
theorem dX7_push_4 : decode cX7_push 4 = .ok (.aload_n 0, 1) := by decide +kernel
theorem dX7_push_5 : decode cX7_push 5 = .ok (.getfield 11, 3) := by decide +kernel
theorem dX7_push_8 : decode cX7_push 8 = .ok (.arraylength, 1) := by decide +kernel
theorem dX7_push_9 : decode cX7_push 9 = .ok (.if_icmp .ge 27, 3) := by decide +kernel
theorem dX7_push_12 : decode cX7_push 12 = .ok (.aload_n 0, 1) := by decide +kernel
theorem dX7_push_13 : decode cX7_push 13 = .ok (.getfield 11, 3) := by decide +kernel
theorem dX7_push_16 : decode cX7_push 16 = .ok (.aload_n 0, 1) := by decide +kernel
theorem dX7_push_17 : decode cX7_push 17 = .ok (.getfield 103, 3) := by decide +kernel
theorem dX7_push_20 : decode cX7_push 20 = .ok (.iload_n 2, 1) := by decide +kernel
theorem dX7_push_21 : decode cX7_push 21 = .ok (.iconst 2, 1) := by decide +kernel
theorem dX7_push_22 : decode cX7_push 22 = .ok (.ishl, 1) := by decide +kernel
theorem dX7_push_23 : decode cX7_push 23 = .ok (.iload_n 1, 1) := by decide +kernel
theorem dX7_push_24 : decode cX7_push 24 = .ok (.ior, 1) := by decide +kernel
theorem dX7_push_25 : decode cX7_push 25 = .ok (.iastore, 1) := by decide +kernel
theorem dX7_push_26 : decode cX7_push 26 = .ok (.aload_n 0, 1) := by decide +kernel
theorem dX7_push_27 : decode cX7_push 27 = .ok (.dup, 1) := by decide +kernel
theorem dX7_push_28 : decode cX7_push 28 = .ok (.getfield 103, 3) := by decide +kernel
theorem dX7_push_31 : decode cX7_push 31 = .ok (.iconst 1, 1) := by decide +kernel
theorem dX7_push_32 : decode cX7_push 32 = .ok (.iadd, 1) := by decide +kernel
theorem dX7_push_33 : decode cX7_push 33 = .ok (.putfield 103, 3) := by decide +kernel
theorem dX7_push_36 : decode cX7_push 36 = .ok (.return_, 1) := by decide +kernel
theorem dX7_pushJoined_0 : decode cX7_pushJoined 0 = .ok (.iload_n 2, 1) := by decide +kernel
theorem dX7_pushJoined_1 : decode cX7_pushJoined 1 = .ok (.iconst 1, 1) := by decide +kernel
theorem dX7_pushJoined_2 : decode cX7_pushJoined 2 = .ok (.iadd, 1) := by decide +kernel
theorem dX7_pushJoined_3 : decode cX7_pushJoined 3 = .ok (.istore 4, 2) := by decide +kernel
theorem dX7_pushJoined_5 : decode cX7_pushJoined 5 = .ok (.aload_n 1, 1) := by decide +kernel
theorem dX7_pushJoined_6 : decode cX7_pushJoined 6 = .ok (.iload 4, 2) := by decide +kernel
theorem dX7_pushJoined_8 : decode cX7_pushJoined 8 = .ok (.aload_n 1, 1) := by decide +kernel
theorem dX7_pushJoined_9 : decode cX7_pushJoined 9 = .ok (.arraylength, 1) := by decide +kernel
theorem dX7_pushJoined_10 : decode cX7_pushJoined 10 = .ok (.invokestatic 144, 3) := by decide +kernel
theorem dX7_pushJoined_13 : decode cX7_pushJoined 13 = .ok (.istore 5, 2) := by decide +kernel
theorem dX7_pushJoined_15 : decode cX7_pushJoined 15 = .ok (.iload 5, 2) := by decide +kernel
theorem dX7_pushJoined_17 : decode cX7_pushJoined 17 = .ok (.aload_n 1, 1) := by decide +kernel
theorem dX7_pushJoined_18 : decode cX7_pushJoined 18 = .ok (.arraylength, 1) := by decide +kernel
theorem dX7_pushJoined_19 : decode cX7_pushJoined 19 = .ok (.if_icmp .lt 4, 3) := by decide +kernel
theorem dX7_pushJoined_22 : decode cX7_pushJoined 22 = .ok (.return_, 1) := by decide +kernel
theorem dX7_pushJoined_23 : decode cX7_pushJoined 23 = .ok (.aload_n 1, 1) := by decide +kernel
theorem dX7_pushJoined_24 : decode cX7_pushJoined 24 = .ok (.iload_n 2, 1) := by decide +kernel
theorem dX7_pushJoined_25 : decode cX7_pushJoined 25 = .ok (.iaload, 1) := by decide +kernel
theorem dX7_pushJoined_26 : decode cX7_pushJoined 26 = .ok (.bipush 15, 2) := by decide +kernel
theorem dX7_pushJoined_28 : decode cX7_pushJoined 28 = .ok (.iand, 1) := by decide +kernel
theorem dX7_pushJoined_29 : decode cX7_pushJoined 29 = .ok (.istore 6, 2) := by decide +kernel
theorem dX7_pushJoined_31 : decode cX7_pushJoined 31 = .ok (.aload_n 1, 1) := by decide +kernel
theorem dX7_pushJoined_32 : decode cX7_pushJoined 32 = .ok (.iload 4, 2) := by decide +kernel
theorem dX7_pushJoined_34 : decode cX7_pushJoined 34 = .ok (.iaload, 1) := by decide +kernel
theorem dX7_pushJoined_35 : decode cX7_pushJoined 35 = .ok (.bipush 15, 2) := by decide +kernel
theorem dX7_pushJoined_37 : decode cX7_pushJoined 37 = .ok (.iand, 1) := by decide +kernel
theorem dX7_pushJoined_38 : decode cX7_pushJoined 38 = .ok (.istore 7, 2) := by decide +kernel
theorem dX7_pushJoined_40 : decode cX7_pushJoined 40 = .ok (.aload_n 1, 1) := by decide +kernel
theorem dX7_pushJoined_41 : decode cX7_pushJoined 41 = .ok (.iload 5, 2) := by decide +kernel
theorem dX7_pushJoined_43 : decode cX7_pushJoined 43 = .ok (.iaload, 1) := by decide +kernel
theorem dX7_pushJoined_44 : decode cX7_pushJoined 44 = .ok (.bipush 15, 2) := by decide +kernel
theorem dX7_pushJoined_46 : decode cX7_pushJoined 46 = .ok (.iand, 1) := by decide +kernel
theorem dX7_pushJoined_47 : decode cX7_pushJoined 47 = .ok (.istore 8, 2) := by decide +kernel
theorem dX7_pushJoined_49 : decode cX7_pushJoined 49 = .ok (.iload 7, 2) := by decide +kernel
theorem dX7_pushJoined_51 : decode cX7_pushJoined 51 = .ok (.iconst 1, 1) := by decide +kernel
theorem dX7_pushJoined_52 : decode cX7_pushJoined 52 = .ok (.if_icmp .eq 27, 3) := by decide +kernel
theorem dX7_pushJoined_55 : decode cX7_pushJoined 55 = .ok (.iload 7, 2) := by decide +kernel
theorem dX7_pushJoined_57 : decode cX7_pushJoined 57 = .ok (.iconst 3, 1) := by decide +kernel
theorem dX7_pushJoined_58 : decode cX7_pushJoined 58 = .ok (.if_icmp .ne 9, 3) := by decide +kernel
theorem dX7_pushJoined_61 : decode cX7_pushJoined 61 = .ok (.iload 6, 2) := by decide +kernel
theorem dX7_pushJoined_63 : decode cX7_pushJoined 63 = .ok (.iconst 1, 1) := by decide +kernel
theorem dX7_pushJoined_64 : decode cX7_pushJoined 64 = .ok (.if_icmp .ne 15, 3) := by decide +kernel
theorem dX7_pushJoined_67 : decode cX7_pushJoined 67 = .ok (.iload 7, 2) := by decide +kernel
theorem dX7_pushJoined_69 : decode cX7_pushJoined 69 = .ok (.iconst 2, 1) := by decide +kernel
theorem dX7_pushJoined_70 : decode cX7_pushJoined 70 = .ok (.if_icmp .ne 13, 3) := by decide +kernel
theorem dX7_pushJoined_73 : decode cX7_pushJoined 73 = .ok (.iload 6, 2) := by decide +kernel
theorem dX7_pushJoined_75 : decode cX7_pushJoined 75 = .ok (.iconst 2, 1) := by decide +kernel
theorem dX7_pushJoined_76 : decode cX7_pushJoined 76 = .ok (.if_icmp .ne 7, 3) := by decide +kernel
theorem dX7_pushJoined_79 : decode cX7_pushJoined 79 = .ok (.iconst 1, 1) := by decide +kernel
theorem dX7_pushJoined_80 : decode cX7_pushJoined 80 = .ok (.goto 4, 3) := by decide +kernel
theorem dX7_pushJoined_83 : decode cX7_pushJoined 83 = .ok (.iconst 0, 1) := by decide +kernel
theorem dX7_pushJoined_84 : decode cX7_pushJoined 84 = .ok (.istore 9, 2) := by decide +kernel
theorem dX7_pushJoined_86 : decode cX7_pushJoined 86 = .ok (.iload 8, 2) := by decide +kernel
theorem dX7_pushJoined_88 : decode cX7_pushJoined 88 = .ok (.iconst 1, 1) := by decide +kernel
theorem dX7_pushJoined_89 : decode cX7_pushJoined 89 = .ok (.if_icmp .ne 9, 3) := by decide +kernel
theorem dX7_pushJoined_92 : decode cX7_pushJoined 92 = .ok (.iload 6, 2) := by decide +kernel
theorem dX7_pushJoined_94 : decode cX7_pushJoined 94 = .ok (.iconst 1, 1) := by decide +kernel
theorem dX7_pushJoined_95 : decode cX7_pushJoined 95 = .ok (.if_icmp .ne 15, 3) := by decide +kernel
theorem dX7_pushJoined_98 : decode cX7_pushJoined 98 = .ok (.iload 8, 2) := by decide +kernel
theorem dX7_pushJoined_100 : decode cX7_pushJoined 100 = .ok (.iconst 3, 1) := by decide +kernel
theorem dX7_pushJoined_101 : decode cX7_pushJoined 101 = .ok (.if_icmp .ne 13, 3) := by decide +kernel
theorem dX7_pushJoined_104 : decode cX7_pushJoined 104 = .ok (.iload 6, 2) := by decide +kernel
theorem dX7_pushJoined_106 : decode cX7_pushJoined 106 = .ok (.iconst 2, 1) := by decide +kernel
theorem dX7_pushJoined_107 : decode cX7_pushJoined 107 = .ok (.if_icmp .ne 7, 3) := by decide +kernel
theorem dX7_pushJoined_110 : decode cX7_pushJoined 110 = .ok (.iconst 1, 1) := by decide +kernel
theorem dX7_pushJoined_111 : decode cX7_pushJoined 111 = .ok (.goto 4, 3) := by decide +kernel
theorem dX7_pushJoined_114 : decode cX7_pushJoined 114 = .ok (.iconst 0, 1) := by decide +kernel
theorem dX7_pushJoined_115 : decode cX7_pushJoined 115 = .ok (.istore 10, 2) := by decide +kernel
theorem dX7_pushJoined_117 : decode cX7_pushJoined 117 = .ok (.aload_n 0, 1) := by decide +kernel
theorem dX7_pushJoined_118 : decode cX7_pushJoined 118 = .ok (.iconst 2, 1) := by decide +kernel
theorem dX7_pushJoined_119 : decode cX7_pushJoined 119 = .ok (.iload 5, 2) := by decide +kernel
theorem dX7_pushJoined_121 : decode cX7_pushJoined 121 = .ok (.iload_n 3, 1) := by decide +kernel
theorem dX7_pushJoined_122 : decode cX7_pushJoined 122 = .ok (.ior, 1) := by decide +kernel
theorem dX7_pushJoined_123 : decode cX7_pushJoined 123 = .ok (.iload 10, 2) := by decide +kernel
theorem dX7_pushJoined_125 : decode cX7_pushJoined 125 = .ok (.ifCond .eq 9, 3) := by decide +kernel
theorem dX7_pushJoined_128 : decode cX7_pushJoined 128 = .ok (.sipush 512, 3) := by decide +kernel
theorem dX7_pushJoined_131 : decode cX7_pushJoined 131 = .ok (.goto 4, 3) := by decide +kernel
theorem dX7_pushJoined_134 : decode cX7_pushJoined 134 = .ok (.iconst 0, 1) := by decide +kernel
theorem dX7_pushJoined_135 : decode cX7_pushJoined 135 = .ok (.ior, 1) := by decide +kernel
theorem dX7_pushJoined_136 : decode cX7_pushJoined 136 = .ok (.invokevirtual 106, 3) := by decide +kernel
theorem dX7_pushJoined_139 : decode cX7_pushJoined 139 = .ok (.aload_n 0, 1) := by decide +kernel
theorem dX7_pushJoined_140 : decode cX7_pushJoined 140 = .ok (.iconst 0, 1) := by decide +kernel
theorem dX7_pushJoined_141 : decode cX7_pushJoined 141 = .ok (.iload 6, 2) := by decide +kernel
theorem dX7_pushJoined_143 : decode cX7_pushJoined 143 = .ok (.invokevirtual 106, 3) := by decide +kernel
theorem dX7_pushJoined_146 : decode cX7_pushJoined 146 = .ok (.aload_n 0, 1) := by decide +kernel
theorem dX7_pushJoined_147 : decode cX7_pushJoined 147 = .ok (.iconst 2, 1) := by decide +kernel
theorem dX7_pushJoined_148 : decode cX7_pushJoined 148 = .ok (.iload 4, 2) := by decide +kernel
theorem dX7_pushJoined_150 : decode cX7_pushJoined 150 = .ok (.iload_n 3, 1) := by decide +kernel
theorem dX7_pushJoined_151 : decode cX7_pushJoined 151 = .ok (.sipush (-257), 3) := by decide +kernel
theorem dX7_pushJoined_154 : decode cX7_pushJoined 154 = .ok (.iand, 1) := by decide +kernel
theorem dX7_pushJoined_155 : decode cX7_pushJoined 155 = .ok (.ior, 1) := by decide +kernel
theorem dX7_pushJoined_156 : decode cX7_pushJoined 156 = .ok (.iload 9, 2) := by decide +kernel
theorem dX7_pushJoined_158 : decode cX7_pushJoined 158 = .ok (.ifCond .eq 9, 3) := by decide +kernel
theorem dX7_pushJoined_161 : decode cX7_pushJoined 161 = .ok (.sipush 512, 3) := by decide +kernel
theorem dX7_pushJoined_164 : decode cX7_pushJoined 164 = .ok (.goto 4, 3) := by decide +kernel
theorem dX7_pushJoined_167 : decode cX7_pushJoined 167 = .ok (.iconst 0, 1) := by decide +kernel
theorem dX7_pushJoined_168 : decode cX7_pushJoined 168 = .ok (.ior, 1) := by decide +kernel
theorem dX7_pushJoined_169 : decode cX7_pushJoined 169 = .ok (.invokevirtual 106, 3) := by decide +kernel
theorem dX7_pushJoined_172 : decode cX7_pushJoined 172 = .ok (.return_, 1) := by decide +kernel
theorem dX7_pushQuantified_0 : decode cX7_pushQuantified 0 = .ok (.iload_n 3, 1) := by decide +kernel
theorem dX7_pushQuantified_1 : decode cX7_pushQuantified 1 = .ok (.aload_n 0, 1) := by decide +kernel
theorem dX7_pushQuantified_2 : decode cX7_pushQuantified 2 = .ok (.getfield 15, 3) := by decide +kernel
theorem dX7_pushQuantified_5 : decode cX7_pushQuantified 5 = .ok (.arraylength, 1) := by decide +kernel
theorem dX7_pushQuantified_6 : decode cX7_pushQuantified 6 = .ok (.if_icmp .lt 4, 3) := by decide +kernel
theorem dX7_pushQuantified_9 : decode cX7_pushQuantified 9 = .ok (.return_, 1) := by decide +kernel
theorem dX7_pushQuantified_10 : decode cX7_pushQuantified 10 = .ok (.aload_n 1, 1) := by decide +kernel
theorem dX7_pushQuantified_11 : decode cX7_pushQuantified 11 = .ok (.iload_n 2, 1) := by decide +kernel
theorem dX7_pushQuantified_12 : decode cX7_pushQuantified 12 = .ok (.aload_n 1, 1) := by decide +kernel
theorem dX7_pushQuantified_13 : decode cX7_pushQuantified 13 = .ok (.arraylength, 1) := by decide +kernel
theorem dX7_pushQuantified_14 : decode cX7_pushQuantified 14 = .ok (.invokestatic 144, 3) := by decide +kernel
theorem dX7_pushQuantified_17 : decode cX7_pushQuantified 17 = .ok (.istore 4, 2) := by decide +kernel
theorem dX7_pushQuantified_19 : decode cX7_pushQuantified 19 = .ok (.aload_n 0, 1) := by decide +kernel
theorem dX7_pushQuantified_20 : decode cX7_pushQuantified 20 = .ok (.getfield 15, 3) := by decide +kernel
theorem dX7_pushQuantified_23 : decode cX7_pushQuantified 23 = .ok (.iload_n 3, 1) := by decide +kernel
theorem dX7_pushQuantified_24 : decode cX7_pushQuantified 24 = .ok (.aload_n 1, 1) := by decide +kernel
theorem dX7_pushQuantified_25 : decode cX7_pushQuantified 25 = .ok (.iload_n 2, 1) := by decide +kernel
theorem dX7_pushQuantified_26 : decode cX7_pushQuantified 26 = .ok (.iaload, 1) := by decide +kernel
theorem dX7_pushQuantified_27 : decode cX7_pushQuantified 27 = .ok (.bipush 15, 2) := by decide +kernel
theorem dX7_pushQuantified_29 : decode cX7_pushQuantified 29 = .ok (.ishr, 1) := by decide +kernel
theorem dX7_pushQuantified_30 : decode cX7_pushQuantified 30 = .ok (.iastore, 1) := by decide +kernel
theorem dX7_pushQuantified_31 : decode cX7_pushQuantified 31 = .ok (.aload_n 0, 1) := by decide +kernel
theorem dX7_pushQuantified_32 : decode cX7_pushQuantified 32 = .ok (.getfield 18, 3) := by decide +kernel
theorem dX7_pushQuantified_35 : decode cX7_pushQuantified 35 = .ok (.iload_n 3, 1) := by decide +kernel
theorem dX7_pushQuantified_36 : decode cX7_pushQuantified 36 = .ok (.iconst 0, 1) := by decide +kernel
theorem dX7_pushQuantified_37 : decode cX7_pushQuantified 37 = .ok (.iastore, 1) := by decide +kernel
theorem dX7_pushQuantified_38 : decode cX7_pushQuantified 38 = .ok (.iconst 0, 1) := by decide +kernel
theorem dX7_pushQuantified_39 : decode cX7_pushQuantified 39 = .ok (.istore 5, 2) := by decide +kernel
theorem dX7_pushQuantified_41 : decode cX7_pushQuantified 41 = .ok (.iload 5, 2) := by decide +kernel
theorem dX7_pushQuantified_43 : decode cX7_pushQuantified 43 = .ok (.sipush 160, 3) := by decide +kernel
theorem dX7_pushQuantified_46 : decode cX7_pushQuantified 46 = .ok (.if_icmp .ge 33, 3) := by decide +kernel
theorem dX7_pushQuantified_49 : decode cX7_pushQuantified 49 = .ok (.aload_n 0, 1) := by decide +kernel
theorem dX7_pushQuantified_50 : decode cX7_pushQuantified 50 = .ok (.aload_n 1, 1) := by decide +kernel
theorem dX7_pushQuantified_51 : decode cX7_pushQuantified 51 = .ok (.iload_n 2, 1) := by decide +kernel
theorem dX7_pushQuantified_52 : decode cX7_pushQuantified 52 = .ok (.iconst 1, 1) := by decide +kernel
theorem dX7_pushQuantified_53 : decode cX7_pushQuantified 53 = .ok (.iadd, 1) := by decide +kernel
theorem dX7_pushQuantified_54 : decode cX7_pushQuantified 54 = .ok (.iload 4, 2) := by decide +kernel
theorem dX7_pushQuantified_56 : decode cX7_pushQuantified 56 = .ok (.iload_n 3, 1) := by decide +kernel
theorem dX7_pushQuantified_57 : decode cX7_pushQuantified 57 = .ok (.invokevirtual 148, 3) := by decide +kernel
theorem dX7_pushQuantified_60 : decode cX7_pushQuantified 60 = .ok (.ifCond .eq 19, 3) := by decide +kernel
theorem dX7_pushQuantified_63 : decode cX7_pushQuantified 63 = .ok (.aload_n 0, 1) := by decide +kernel
theorem dX7_pushQuantified_64 : decode cX7_pushQuantified 64 = .ok (.getfield 18, 3) := by decide +kernel
theorem dX7_pushQuantified_67 : decode cX7_pushQuantified 67 = .ok (.iload_n 3, 1) := by decide +kernel
theorem dX7_pushQuantified_68 : decode cX7_pushQuantified 68 = .ok (.dup2, 1) := by decide +kernel
theorem dX7_pushQuantified_69 : decode cX7_pushQuantified 69 = .ok (.iaload, 1) := by decide +kernel
theorem dX7_pushQuantified_70 : decode cX7_pushQuantified 70 = .ok (.iconst 1, 1) := by decide +kernel
theorem dX7_pushQuantified_71 : decode cX7_pushQuantified 71 = .ok (.iadd, 1) := by decide +kernel
theorem dX7_pushQuantified_72 : decode cX7_pushQuantified 72 = .ok (.iastore, 1) := by decide +kernel
theorem dX7_pushQuantified_73 : decode cX7_pushQuantified 73 = .ok (.iinc 5 1, 3) := by decide +kernel
theorem dX7_pushQuantified_76 : decode cX7_pushQuantified 76 = .ok (.goto (-35), 3) := by decide +kernel
theorem dX7_pushQuantified_79 : decode cX7_pushQuantified 79 = .ok (.aload_n 0, 1) := by decide +kernel
theorem dX7_pushQuantified_80 : decode cX7_pushQuantified 80 = .ok (.iconst 2, 1) := by decide +kernel
theorem dX7_pushQuantified_81 : decode cX7_pushQuantified 81 = .ok (.iload_n 2, 1) := by decide +kernel
theorem dX7_pushQuantified_82 : decode cX7_pushQuantified 82 = .ok (.iconst 1, 1) := by decide +kernel
theorem dX7_pushQuantified_83 : decode cX7_pushQuantified 83 = .ok (.iadd, 1) := by decide +kernel
theorem dX7_pushQuantified_84 : decode cX7_pushQuantified 84 = .ok (.sipush 256, 3) := by decide +kernel
theorem dX7_pushQuantified_87 : decode cX7_pushQuantified 87 = .ok (.ior, 1) := by decide +kernel
theorem dX7_pushQuantified_88 : decode cX7_pushQuantified 88 = .ok (.iload_n 3, 1) := by decide +kernel
theorem dX7_pushQuantified_89 : decode cX7_pushQuantified 89 = .ok (.iconst 1, 1) := by decide +kernel
theorem dX7_pushQuantified_90 : decode cX7_pushQuantified 90 = .ok (.iadd, 1) := by decide +kernel
theorem dX7_pushQuantified_91 : decode cX7_pushQuantified 91 = .ok (.bipush 10, 2) := by decide +kernel
theorem dX7_pushQuantified_93 : decode cX7_pushQuantified 93 = .ok (.ishl, 1) := by decide +kernel
theorem dX7_pushQuantified_94 : decode cX7_pushQuantified 94 = .ok (.ior, 1) := by decide +kernel
theorem dX7_pushQuantified_95 : decode cX7_pushQuantified 95 = .ok (.invokevirtual 106, 3) := by decide +kernel
theorem dX7_pushQuantified_98 : decode cX7_pushQuantified 98 = .ok (.aload_n 0, 1) := by decide +kernel
theorem dX7_pushQuantified_99 : decode cX7_pushQuantified 99 = .ok (.iconst 0, 1) := by decide +kernel
theorem dX7_pushQuantified_100 : decode cX7_pushQuantified 100 = .ok (.bipush 18, 2) := by decide +kernel
theorem dX7_pushQuantified_102 : decode cX7_pushQuantified 102 = .ok (.invokevirtual 106, 3) := by decide +kernel
theorem dX7_pushQuantified_105 : decode cX7_pushQuantified 105 = .ok (.aload_n 0, 1) := by decide +kernel
theorem dX7_pushQuantified_106 : decode cX7_pushQuantified 106 = .ok (.iconst 1, 1) := by decide +kernel
theorem dX7_pushQuantified_107 : decode cX7_pushQuantified 107 = .ok (.aload_n 0, 1) := by decide +kernel
theorem dX7_pushQuantified_108 : decode cX7_pushQuantified 108 = .ok (.getfield 15, 3) := by decide +kernel
theorem dX7_pushQuantified_111 : decode cX7_pushQuantified 111 = .ok (.iload_n 3, 1) := by decide +kernel
theorem dX7_pushQuantified_112 : decode cX7_pushQuantified 112 = .ok (.iaload, 1) := by decide +kernel
theorem dX7_pushQuantified_113 : decode cX7_pushQuantified 113 = .ok (.aload_n 0, 1) := by decide +kernel
theorem dX7_pushQuantified_114 : decode cX7_pushQuantified 114 = .ok (.getfield 18, 3) := by decide +kernel
theorem dX7_pushQuantified_117 : decode cX7_pushQuantified 117 = .ok (.iload_n 3, 1) := by decide +kernel
theorem dX7_pushQuantified_118 : decode cX7_pushQuantified 118 = .ok (.iaload, 1) := by decide +kernel
theorem dX7_pushQuantified_119 : decode cX7_pushQuantified 119 = .ok (.bipush 17, 2) := by decide +kernel
theorem dX7_pushQuantified_121 : decode cX7_pushQuantified 121 = .ok (.ishl, 1) := by decide +kernel
theorem dX7_pushQuantified_122 : decode cX7_pushQuantified 122 = .ok (.ior, 1) := by decide +kernel
theorem dX7_pushQuantified_123 : decode cX7_pushQuantified 123 = .ok (.invokevirtual 106, 3) := by decide +kernel
theorem dX7_pushQuantified_126 : decode cX7_pushQuantified 126 = .ok (.aload_n 0, 1) := by decide +kernel
theorem dX7_pushQuantified_127 : decode cX7_pushQuantified 127 = .ok (.iconst 0, 1) := by decide +kernel
theorem dX7_pushQuantified_128 : decode cX7_pushQuantified 128 = .ok (.aload_n 1, 1) := by decide +kernel
theorem dX7_pushQuantified_129 : decode cX7_pushQuantified 129 = .ok (.iload_n 2, 1) := by decide +kernel
theorem dX7_pushQuantified_130 : decode cX7_pushQuantified 130 = .ok (.iaload, 1) := by decide +kernel
theorem dX7_pushQuantified_131 : decode cX7_pushQuantified 131 = .ok (.bipush 15, 2) := by decide +kernel
theorem dX7_pushQuantified_133 : decode cX7_pushQuantified 133 = .ok (.iand, 1) := by decide +kernel
theorem dX7_pushQuantified_134 : decode cX7_pushQuantified 134 = .ok (.invokevirtual 106, 3) := by decide +kernel
theorem dX7_pushQuantified_137 : decode cX7_pushQuantified 137 = .ok (.return_, 1) := by decide +kernel
theorem dX7_isWrittenIn_0 : decode cX7_isWrittenIn 0 = .ok (.aload_n 0, 1) := by decide +kernel
theorem dX7_isWrittenIn_1 : decode cX7_isWrittenIn 1 = .ok (.getfield 15, 3) := by decide +kernel
theorem dX7_isWrittenIn_4 : decode cX7_isWrittenIn 4 = .ok (.iload 4, 2) := by decide +kernel
theorem dX7_isWrittenIn_6 : decode cX7_isWrittenIn 6 = .ok (.iaload, 1) := by decide +kernel
theorem dX7_isWrittenIn_7 : decode cX7_isWrittenIn 7 = .ok (.istore 5, 2) := by decide +kernel
theorem dX7_isWrittenIn_9 : decode cX7_isWrittenIn 9 = .ok (.iload_n 2, 1) := by decide +kernel
theorem dX7_isWrittenIn_10 : decode cX7_isWrittenIn 10 = .ok (.istore 6, 2) := by decide +kernel
theorem dX7_isWrittenIn_12 : decode cX7_isWrittenIn 12 = .ok (.iload 6, 2) := by decide +kernel
theorem dX7_isWrittenIn_14 : decode cX7_isWrittenIn 14 = .ok (.iload_n 3, 1) := by decide +kernel
theorem dX7_isWrittenIn_15 : decode cX7_isWrittenIn 15 = .ok (.if_icmp .ge 189, 3) := by decide +kernel
theorem dX7_isWrittenIn_18 : decode cX7_isWrittenIn 18 = .ok (.iload 6, 2) := by decide +kernel
theorem dX7_isWrittenIn_20 : decode cX7_isWrittenIn 20 = .ok (.aload_n 1, 1) := by decide +kernel
theorem dX7_isWrittenIn_21 : decode cX7_isWrittenIn 21 = .ok (.arraylength, 1) := by decide +kernel
theorem dX7_isWrittenIn_22 : decode cX7_isWrittenIn 22 = .ok (.if_icmp .ge 182, 3) := by decide +kernel
theorem dX7_isWrittenIn_25 : decode cX7_isWrittenIn 25 = .ok (.iload 5, 2) := by decide +kernel
theorem dX7_isWrittenIn_27 : decode cX7_isWrittenIn 27 = .ok (.aload_n 0, 1) := by decide +kernel
theorem dX7_isWrittenIn_28 : decode cX7_isWrittenIn 28 = .ok (.getfield 21, 3) := by decide +kernel
theorem dX7_isWrittenIn_31 : decode cX7_isWrittenIn 31 = .ok (.getfield 152, 3) := by decide +kernel
theorem dX7_isWrittenIn_34 : decode cX7_isWrittenIn 34 = .ok (.if_icmp .ge 170, 3) := by decide +kernel
theorem dX7_isWrittenIn_37 : decode cX7_isWrittenIn 37 = .ok (.aload_n 1, 1) := by decide +kernel
theorem dX7_isWrittenIn_38 : decode cX7_isWrittenIn 38 = .ok (.iload 6, 2) := by decide +kernel
theorem dX7_isWrittenIn_40 : decode cX7_isWrittenIn 40 = .ok (.iaload, 1) := by decide +kernel
theorem dX7_isWrittenIn_41 : decode cX7_isWrittenIn 41 = .ok (.bipush 15, 2) := by decide +kernel
theorem dX7_isWrittenIn_43 : decode cX7_isWrittenIn 43 = .ok (.iand, 1) := by decide +kernel
theorem dX7_isWrittenIn_44 : decode cX7_isWrittenIn 44 = .ok (.istore 7, 2) := by decide +kernel
theorem dX7_isWrittenIn_46 : decode cX7_isWrittenIn 46 = .ok (.aload_n 1, 1) := by decide +kernel
theorem dX7_isWrittenIn_47 : decode cX7_isWrittenIn 47 = .ok (.iload 6, 2) := by decide +kernel
theorem dX7_isWrittenIn_49 : decode cX7_isWrittenIn 49 = .ok (.iaload, 1) := by decide +kernel
theorem dX7_isWrittenIn_50 : decode cX7_isWrittenIn 50 = .ok (.bipush 15, 2) := by decide +kernel
theorem dX7_isWrittenIn_52 : decode cX7_isWrittenIn 52 = .ok (.ishr, 1) := by decide +kernel
theorem dX7_isWrittenIn_53 : decode cX7_isWrittenIn 53 = .ok (.istore 8, 2) := by decide +kernel
theorem dX7_isWrittenIn_55 : decode cX7_isWrittenIn 55 = .ok (.iconst 0, 1) := by decide +kernel
theorem dX7_isWrittenIn_56 : decode cX7_isWrittenIn 56 = .ok (.istore 9, 2) := by decide +kernel
theorem dX7_isWrittenIn_58 : decode cX7_isWrittenIn 58 = .ok (.iload 7, 2) := by decide +kernel
theorem dX7_isWrittenIn_60 : decode cX7_isWrittenIn 60 = .ok (.bipush 7, 2) := by decide +kernel
theorem dX7_isWrittenIn_62 : decode cX7_isWrittenIn 62 = .ok (.if_icmp .eq 17, 3) := by decide +kernel
theorem dX7_isWrittenIn_65 : decode cX7_isWrittenIn 65 = .ok (.iload 7, 2) := by decide +kernel
theorem dX7_isWrittenIn_67 : decode cX7_isWrittenIn 67 = .ok (.bipush 8, 2) := by decide +kernel
theorem dX7_isWrittenIn_69 : decode cX7_isWrittenIn 69 = .ok (.if_icmp .eq 10, 3) := by decide +kernel
theorem dX7_isWrittenIn_72 : decode cX7_isWrittenIn 72 = .ok (.iload 7, 2) := by decide +kernel
theorem dX7_isWrittenIn_74 : decode cX7_isWrittenIn 74 = .ok (.bipush 9, 2) := by decide +kernel
theorem dX7_isWrittenIn_76 : decode cX7_isWrittenIn 76 = .ok (.if_icmp .ne 7, 3) := by decide +kernel
theorem dX7_isWrittenIn_79 : decode cX7_isWrittenIn 79 = .ok (.iconst 1, 1) := by decide +kernel
theorem dX7_isWrittenIn_80 : decode cX7_isWrittenIn 80 = .ok (.goto 4, 3) := by decide +kernel
theorem dX7_isWrittenIn_83 : decode cX7_isWrittenIn 83 = .ok (.iconst 0, 1) := by decide +kernel
theorem dX7_isWrittenIn_84 : decode cX7_isWrittenIn 84 = .ok (.istore 10, 2) := by decide +kernel
theorem dX7_isWrittenIn_86 : decode cX7_isWrittenIn 86 = .ok (.iload 7, 2) := by decide +kernel
theorem dX7_isWrittenIn_88 : decode cX7_isWrittenIn 88 = .ok (.bipush 10, 2) := by decide +kernel
theorem dX7_isWrittenIn_90 : decode cX7_isWrittenIn 90 = .ok (.if_icmp .ne 31, 3) := by decide +kernel
theorem dX7_isWrittenIn_93 : decode cX7_isWrittenIn 93 = .ok (.iload 8, 2) := by decide +kernel
theorem dX7_isWrittenIn_95 : decode cX7_isWrittenIn 95 = .ok (.iload 4, 2) := by decide +kernel
theorem dX7_isWrittenIn_97 : decode cX7_isWrittenIn 97 = .ok (.if_icmp .ge 24, 3) := by decide +kernel
theorem dX7_isWrittenIn_100 : decode cX7_isWrittenIn 100 = .ok (.iconst 1, 1) := by decide +kernel
theorem dX7_isWrittenIn_101 : decode cX7_isWrittenIn 101 = .ok (.istore 10, 2) := by decide +kernel
theorem dX7_isWrittenIn_103 : decode cX7_isWrittenIn 103 = .ok (.aload_n 0, 1) := by decide +kernel
theorem dX7_isWrittenIn_104 : decode cX7_isWrittenIn 104 = .ok (.getfield 18, 3) := by decide +kernel
theorem dX7_isWrittenIn_107 : decode cX7_isWrittenIn 107 = .ok (.iload 8, 2) := by decide +kernel
theorem dX7_isWrittenIn_109 : decode cX7_isWrittenIn 109 = .ok (.iaload, 1) := by decide +kernel
theorem dX7_isWrittenIn_110 : decode cX7_isWrittenIn 110 = .ok (.istore 9, 2) := by decide +kernel
theorem dX7_isWrittenIn_112 : decode cX7_isWrittenIn 112 = .ok (.aload_n 0, 1) := by decide +kernel
theorem dX7_isWrittenIn_113 : decode cX7_isWrittenIn 113 = .ok (.getfield 15, 3) := by decide +kernel
theorem dX7_isWrittenIn_116 : decode cX7_isWrittenIn 116 = .ok (.iload 8, 2) := by decide +kernel
theorem dX7_isWrittenIn_118 : decode cX7_isWrittenIn 118 = .ok (.iaload, 1) := by decide +kernel
theorem dX7_isWrittenIn_119 : decode cX7_isWrittenIn 119 = .ok (.istore 8, 2) := by decide +kernel
theorem dX7_isWrittenIn_121 : decode cX7_isWrittenIn 121 = .ok (.iload 10, 2) := by decide +kernel
theorem dX7_isWrittenIn_123 : decode cX7_isWrittenIn 123 = .ok (.ifCond .eq 75, 3) := by decide +kernel
theorem dX7_isWrittenIn_126 : decode cX7_isWrittenIn 126 = .ok (.iload 8, 2) := by decide +kernel
theorem dX7_isWrittenIn_128 : decode cX7_isWrittenIn 128 = .ok (.aload_n 0, 1) := by decide +kernel
theorem dX7_isWrittenIn_129 : decode cX7_isWrittenIn 129 = .ok (.getfield 21, 3) := by decide +kernel
theorem dX7_isWrittenIn_132 : decode cX7_isWrittenIn 132 = .ok (.getfield 152, 3) := by decide +kernel
theorem dX7_isWrittenIn_135 : decode cX7_isWrittenIn 135 = .ok (.if_icmp .ge 63, 3) := by decide +kernel
theorem dX7_isWrittenIn_138 : decode cX7_isWrittenIn 138 = .ok (.aload_n 0, 1) := by decide +kernel
theorem dX7_isWrittenIn_139 : decode cX7_isWrittenIn 139 = .ok (.getfield 21, 3) := by decide +kernel
theorem dX7_isWrittenIn_142 : decode cX7_isWrittenIn 142 = .ok (.getfield 155, 3) := by decide +kernel
theorem dX7_isWrittenIn_145 : decode cX7_isWrittenIn 145 = .ok (.iload 8, 2) := by decide +kernel
theorem dX7_isWrittenIn_147 : decode cX7_isWrittenIn 147 = .ok (.laload, 1) := by decide +kernel
theorem dX7_isWrittenIn_148 : decode cX7_isWrittenIn 148 = .ok (.aload_n 0, 1) := by decide +kernel
theorem dX7_isWrittenIn_149 : decode cX7_isWrittenIn 149 = .ok (.getfield 21, 3) := by decide +kernel
theorem dX7_isWrittenIn_152 : decode cX7_isWrittenIn 152 = .ok (.getfield 155, 3) := by decide +kernel
theorem dX7_isWrittenIn_155 : decode cX7_isWrittenIn 155 = .ok (.iload 5, 2) := by decide +kernel
theorem dX7_isWrittenIn_157 : decode cX7_isWrittenIn 157 = .ok (.laload, 1) := by decide +kernel
theorem dX7_isWrittenIn_158 : decode cX7_isWrittenIn 158 = .ok (.lcmp, 1) := by decide +kernel
theorem dX7_isWrittenIn_159 : decode cX7_isWrittenIn 159 = .ok (.ifCond .ne 39, 3) := by decide +kernel
theorem dX7_isWrittenIn_162 : decode cX7_isWrittenIn 162 = .ok (.aload_n 0, 1) := by decide +kernel
theorem dX7_isWrittenIn_163 : decode cX7_isWrittenIn 163 = .ok (.getfield 21, 3) := by decide +kernel
theorem dX7_isWrittenIn_166 : decode cX7_isWrittenIn 166 = .ok (.getfield 159, 3) := by decide +kernel
theorem dX7_isWrittenIn_169 : decode cX7_isWrittenIn 169 = .ok (.iload 8, 2) := by decide +kernel
theorem dX7_isWrittenIn_171 : decode cX7_isWrittenIn 171 = .ok (.iaload, 1) := by decide +kernel
theorem dX7_isWrittenIn_172 : decode cX7_isWrittenIn 172 = .ok (.iload 9, 2) := by decide +kernel
theorem dX7_isWrittenIn_174 : decode cX7_isWrittenIn 174 = .ok (.iadd, 1) := by decide +kernel
theorem dX7_isWrittenIn_175 : decode cX7_isWrittenIn 175 = .ok (.aload_n 0, 1) := by decide +kernel
theorem dX7_isWrittenIn_176 : decode cX7_isWrittenIn 176 = .ok (.getfield 21, 3) := by decide +kernel
theorem dX7_isWrittenIn_179 : decode cX7_isWrittenIn 179 = .ok (.getfield 159, 3) := by decide +kernel
theorem dX7_isWrittenIn_182 : decode cX7_isWrittenIn 182 = .ok (.iload 5, 2) := by decide +kernel
theorem dX7_isWrittenIn_184 : decode cX7_isWrittenIn 184 = .ok (.iaload, 1) := by decide +kernel
theorem dX7_isWrittenIn_185 : decode cX7_isWrittenIn 185 = .ok (.aload_n 0, 1) := by decide +kernel
theorem dX7_isWrittenIn_186 : decode cX7_isWrittenIn 186 = .ok (.getfield 18, 3) := by decide +kernel
theorem dX7_isWrittenIn_189 : decode cX7_isWrittenIn 189 = .ok (.iload 4, 2) := by decide +kernel
theorem dX7_isWrittenIn_191 : decode cX7_isWrittenIn 191 = .ok (.iaload, 1) := by decide +kernel
theorem dX7_isWrittenIn_192 : decode cX7_isWrittenIn 192 = .ok (.iadd, 1) := by decide +kernel
theorem dX7_isWrittenIn_193 : decode cX7_isWrittenIn 193 = .ok (.if_icmp .ne 5, 3) := by decide +kernel
theorem dX7_isWrittenIn_196 : decode cX7_isWrittenIn 196 = .ok (.iconst 1, 1) := by decide +kernel
theorem dX7_isWrittenIn_197 : decode cX7_isWrittenIn 197 = .ok (.ireturn, 1) := by decide +kernel
theorem dX7_isWrittenIn_198 : decode cX7_isWrittenIn 198 = .ok (.iinc 6 1, 3) := by decide +kernel
theorem dX7_isWrittenIn_201 : decode cX7_isWrittenIn 201 = .ok (.goto (-189), 3) := by decide +kernel
theorem dX7_isWrittenIn_204 : decode cX7_isWrittenIn 204 = .ok (.iconst 0, 1) := by decide +kernel
theorem dX7_isWrittenIn_205 : decode cX7_isWrittenIn 205 = .ok (.ireturn, 1) := by decide +kernel
theorem dX7_pushTerm_0 : decode cX7_pushTerm 0 = .ok (.aload_n 1, 1) := by decide +kernel
theorem dX7_pushTerm_1 : decode cX7_pushTerm 1 = .ok (.iload_n 2, 1) := by decide +kernel
theorem dX7_pushTerm_2 : decode cX7_pushTerm 2 = .ok (.iaload, 1) := by decide +kernel
theorem dX7_pushTerm_3 : decode cX7_pushTerm 3 = .ok (.bipush 15, 2) := by decide +kernel
theorem dX7_pushTerm_5 : decode cX7_pushTerm 5 = .ok (.ishr, 1) := by decide +kernel
theorem dX7_pushTerm_6 : decode cX7_pushTerm 6 = .ok (.istore_n 3, 1) := by decide +kernel
theorem dX7_pushTerm_7 : decode cX7_pushTerm 7 = .ok (.aload_n 1, 1) := by decide +kernel
theorem dX7_pushTerm_8 : decode cX7_pushTerm 8 = .ok (.iload_n 2, 1) := by decide +kernel
theorem dX7_pushTerm_9 : decode cX7_pushTerm 9 = .ok (.iaload, 1) := by decide +kernel
theorem dX7_pushTerm_10 : decode cX7_pushTerm 10 = .ok (.bipush 15, 2) := by decide +kernel
theorem dX7_pushTerm_12 : decode cX7_pushTerm 12 = .ok (.iand, 1) := by decide +kernel
theorem dX7_pushTerm_13 : decode cX7_pushTerm 13 = .ok (.bipush 10, 2) := by decide +kernel
theorem dX7_pushTerm_15 : decode cX7_pushTerm 15 = .ok (.if_icmp .ne 34, 3) := by decide +kernel
theorem dX7_pushTerm_18 : decode cX7_pushTerm 18 = .ok (.iload_n 3, 1) := by decide +kernel
theorem dX7_pushTerm_19 : decode cX7_pushTerm 19 = .ok (.aload_n 0, 1) := by decide +kernel
theorem dX7_pushTerm_20 : decode cX7_pushTerm 20 = .ok (.getfield 15, 3) := by decide +kernel
theorem dX7_pushTerm_23 : decode cX7_pushTerm 23 = .ok (.arraylength, 1) := by decide +kernel
theorem dX7_pushTerm_24 : decode cX7_pushTerm 24 = .ok (.if_icmp .ge 24, 3) := by decide +kernel
theorem dX7_pushTerm_27 : decode cX7_pushTerm 27 = .ok (.aload_n 0, 1) := by decide +kernel
theorem dX7_pushTerm_28 : decode cX7_pushTerm 28 = .ok (.iconst 1, 1) := by decide +kernel
theorem dX7_pushTerm_29 : decode cX7_pushTerm 29 = .ok (.aload_n 0, 1) := by decide +kernel
theorem dX7_pushTerm_30 : decode cX7_pushTerm 30 = .ok (.getfield 15, 3) := by decide +kernel
theorem dX7_pushTerm_33 : decode cX7_pushTerm 33 = .ok (.iload_n 3, 1) := by decide +kernel
theorem dX7_pushTerm_34 : decode cX7_pushTerm 34 = .ok (.iaload, 1) := by decide +kernel
theorem dX7_pushTerm_35 : decode cX7_pushTerm 35 = .ok (.aload_n 0, 1) := by decide +kernel
theorem dX7_pushTerm_36 : decode cX7_pushTerm 36 = .ok (.getfield 18, 3) := by decide +kernel
theorem dX7_pushTerm_39 : decode cX7_pushTerm 39 = .ok (.iload_n 3, 1) := by decide +kernel
theorem dX7_pushTerm_40 : decode cX7_pushTerm 40 = .ok (.iaload, 1) := by decide +kernel
theorem dX7_pushTerm_41 : decode cX7_pushTerm 41 = .ok (.bipush 17, 2) := by decide +kernel
theorem dX7_pushTerm_43 : decode cX7_pushTerm 43 = .ok (.ishl, 1) := by decide +kernel
theorem dX7_pushTerm_44 : decode cX7_pushTerm 44 = .ok (.ior, 1) := by decide +kernel
theorem dX7_pushTerm_45 : decode cX7_pushTerm 45 = .ok (.invokevirtual 106, 3) := by decide +kernel
theorem dX7_pushTerm_48 : decode cX7_pushTerm 48 = .ok (.return_, 1) := by decide +kernel
theorem dX7_pushTerm_49 : decode cX7_pushTerm 49 = .ok (.aload_n 1, 1) := by decide +kernel
theorem dX7_pushTerm_50 : decode cX7_pushTerm 50 = .ok (.iload_n 2, 1) := by decide +kernel
theorem dX7_pushTerm_51 : decode cX7_pushTerm 51 = .ok (.iaload, 1) := by decide +kernel
theorem dX7_pushTerm_52 : decode cX7_pushTerm 52 = .ok (.iconst 4, 1) := by decide +kernel
theorem dX7_pushTerm_53 : decode cX7_pushTerm 53 = .ok (.ishr, 1) := by decide +kernel
theorem dX7_pushTerm_54 : decode cX7_pushTerm 54 = .ok (.sipush 2047, 3) := by decide +kernel
theorem dX7_pushTerm_57 : decode cX7_pushTerm 57 = .ok (.iand, 1) := by decide +kernel
theorem dX7_pushTerm_58 : decode cX7_pushTerm 58 = .ok (.istore 4, 2) := by decide +kernel
theorem dX7_pushTerm_60 : decode cX7_pushTerm 60 = .ok (.iload 4, 2) := by decide +kernel
theorem dX7_pushTerm_62 : decode cX7_pushTerm 62 = .ok (.ifCond .le 10, 3) := by decide +kernel
theorem dX7_pushTerm_65 : decode cX7_pushTerm 65 = .ok (.aload_n 0, 1) := by decide +kernel
theorem dX7_pushTerm_66 : decode cX7_pushTerm 66 = .ok (.iconst 0, 1) := by decide +kernel
theorem dX7_pushTerm_67 : decode cX7_pushTerm 67 = .ok (.bipush 16, 2) := by decide +kernel
theorem dX7_pushTerm_69 : decode cX7_pushTerm 69 = .ok (.invokevirtual 106, 3) := by decide +kernel
theorem dX7_pushTerm_72 : decode cX7_pushTerm 72 = .ok (.iload 4, 2) := by decide +kernel
theorem dX7_pushTerm_74 : decode cX7_pushTerm 74 = .ok (.istore 5, 2) := by decide +kernel
theorem dX7_pushTerm_76 : decode cX7_pushTerm 76 = .ok (.iload 5, 2) := by decide +kernel
theorem dX7_pushTerm_78 : decode cX7_pushTerm 78 = .ok (.ifCond .le 65, 3) := by decide +kernel
theorem dX7_pushTerm_81 : decode cX7_pushTerm 81 = .ok (.iload_n 2, 1) := by decide +kernel
theorem dX7_pushTerm_82 : decode cX7_pushTerm 82 = .ok (.iconst 1, 1) := by decide +kernel
theorem dX7_pushTerm_83 : decode cX7_pushTerm 83 = .ok (.iadd, 1) := by decide +kernel
theorem dX7_pushTerm_84 : decode cX7_pushTerm 84 = .ok (.istore 6, 2) := by decide +kernel
theorem dX7_pushTerm_86 : decode cX7_pushTerm 86 = .ok (.iconst 1, 1) := by decide +kernel
theorem dX7_pushTerm_87 : decode cX7_pushTerm 87 = .ok (.istore 7, 2) := by decide +kernel
theorem dX7_pushTerm_89 : decode cX7_pushTerm 89 = .ok (.iload 7, 2) := by decide +kernel
theorem dX7_pushTerm_91 : decode cX7_pushTerm 91 = .ok (.iload 5, 2) := by decide +kernel
theorem dX7_pushTerm_93 : decode cX7_pushTerm 93 = .ok (.if_icmp .ge 19, 3) := by decide +kernel
theorem dX7_pushTerm_96 : decode cX7_pushTerm 96 = .ok (.aload_n 1, 1) := by decide +kernel
theorem dX7_pushTerm_97 : decode cX7_pushTerm 97 = .ok (.iload 6, 2) := by decide +kernel
theorem dX7_pushTerm_99 : decode cX7_pushTerm 99 = .ok (.aload_n 1, 1) := by decide +kernel
theorem dX7_pushTerm_100 : decode cX7_pushTerm 100 = .ok (.arraylength, 1) := by decide +kernel
theorem dX7_pushTerm_101 : decode cX7_pushTerm 101 = .ok (.invokestatic 144, 3) := by decide +kernel
theorem dX7_pushTerm_104 : decode cX7_pushTerm 104 = .ok (.istore 6, 2) := by decide +kernel
theorem dX7_pushTerm_106 : decode cX7_pushTerm 106 = .ok (.iinc 7 1, 3) := by decide +kernel
theorem dX7_pushTerm_109 : decode cX7_pushTerm 109 = .ok (.goto (-20), 3) := by decide +kernel
theorem dX7_pushTerm_112 : decode cX7_pushTerm 112 = .ok (.aload_n 0, 1) := by decide +kernel
theorem dX7_pushTerm_113 : decode cX7_pushTerm 113 = .ok (.iconst 2, 1) := by decide +kernel
theorem dX7_pushTerm_114 : decode cX7_pushTerm 114 = .ok (.iload 6, 2) := by decide +kernel
theorem dX7_pushTerm_116 : decode cX7_pushTerm 116 = .ok (.invokevirtual 106, 3) := by decide +kernel
theorem dX7_pushTerm_119 : decode cX7_pushTerm 119 = .ok (.aload_n 0, 1) := by decide +kernel
theorem dX7_pushTerm_120 : decode cX7_pushTerm 120 = .ok (.iconst 0, 1) := by decide +kernel
theorem dX7_pushTerm_121 : decode cX7_pushTerm 121 = .ok (.iload 5, 2) := by decide +kernel
theorem dX7_pushTerm_123 : decode cX7_pushTerm 123 = .ok (.iconst 1, 1) := by decide +kernel
theorem dX7_pushTerm_124 : decode cX7_pushTerm 124 = .ok (.if_icmp .le 8, 3) := by decide +kernel
theorem dX7_pushTerm_127 : decode cX7_pushTerm 127 = .ok (.bipush 18, 2) := by decide +kernel
theorem dX7_pushTerm_129 : decode cX7_pushTerm 129 = .ok (.goto 5, 3) := by decide +kernel
theorem dX7_pushTerm_132 : decode cX7_pushTerm 132 = .ok (.bipush 17, 2) := by decide +kernel
theorem dX7_pushTerm_134 : decode cX7_pushTerm 134 = .ok (.invokevirtual 106, 3) := by decide +kernel
theorem dX7_pushTerm_137 : decode cX7_pushTerm 137 = .ok (.iinc 5 (-1), 3) := by decide +kernel
theorem dX7_pushTerm_140 : decode cX7_pushTerm 140 = .ok (.goto (-64), 3) := by decide +kernel
theorem dX7_pushTerm_143 : decode cX7_pushTerm 143 = .ok (.aload_n 0, 1) := by decide +kernel
theorem dX7_pushTerm_144 : decode cX7_pushTerm 144 = .ok (.iconst 1, 1) := by decide +kernel
theorem dX7_pushTerm_145 : decode cX7_pushTerm 145 = .ok (.iload_n 3, 1) := by decide +kernel
theorem dX7_pushTerm_146 : decode cX7_pushTerm 146 = .ok (.invokevirtual 106, 3) := by decide +kernel
theorem dX7_pushTerm_149 : decode cX7_pushTerm 149 = .ok (.return_, 1) := by decide +kernel
end
