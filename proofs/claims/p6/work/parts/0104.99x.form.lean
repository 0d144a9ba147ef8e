section
-- formulas whose nodes may be -1
theorem jb_push {x t y w : Int32} (ey : y = x <<< (2 &&& 31)) (ew : w = y ||| t) (ht : 0 ≤ t.toInt ∧ t.toInt ≤ 3) (h : (0 ≤ x.toInt ∧ x.toInt < 536870912) ∨ (t.toInt = 1 ∧ x.toInt = -1)) : 0 ≤ w.toInt ∨ w.toInt = -3 := by
  rcases h with ⟨h1, h2⟩ | ⟨h1, h2⟩
  · have h3 := jb_shlc 2 4 ey (by decide) (by decide) h1 (by omega)
    exact Or.inl (jb_or ew (by omega) ht.1)
  · have e1 : x = -1 := Int32.toInt_inj.mp (by rw [h2]; decide)
    have e2 : t = 1 := Int32.toInt_inj.mp (by rw [h1]; decide)
    subst e1; subst e2; subst ey; subst ew
    exact Or.inr (by decide)
theorem jb_and3 (x : Int32) : (x &&& 3).toInt = x.toInt % 4 := by
  have h := pk_and x (m := 3) 2 (by decide)
  have hb := x.toBitVec.isLt
  have hx := ji_toInt x
  rw [h, nI_toInt (by omega), hx]
  split <;> omega
def EX5_areSameB : List (Nat × Nat) := []
def EX5_leadingBoundB : List (Nat × Nat) := []
def EX11_endOfB : List (Nat × Nat) := []
def EX5_standsAtB : List (Nat × Nat) := []
set_option maxHeartbeats 4000000 in
set_option maxRecDepth 20000 in
theorem uX5_areSameB (l : Launch) (dC : Nat → ClassId) (dI : Nat → Nat → Nat) (ca : Nat → ClassId) (base : Nat) (B : jF) (hB : jBok B) (hAp : jAp (dC, dI)) (hB280 : ∀ n G a H, B 280 n G a H ↔ jAr (dC, dI) (ca 1) (fun j z => -1 ≤ z.toInt) n a H) (G0 : jT) (H0 : Heap) (r0 : Nat) (r1 : Nat) (n0 : Nat) (n1 : Nat) : Met l yX5_areSame (jw yX5_areSame cX5_areSame 3 (some .boolean)) ({ frames := 1, cells := 0, slots := 0, locals := 22 }) (va_Pc [.ref r0, .ref r1] (fun U => U.heap = H0 ∧ jX B base G0 [] H0 ∧ jG dC dI ca base U ∧ G0 r0 = some (280, n0) ∧ G0 r1 = some (280, n1) ∧ jP (dC, dI) G0 H0 [] ∧ n0 < 2147483648 ∧ n1 < 2147483648)) (va_Qi (S := Unit) (fun r u => (r = 0 ∨ r = 1) ∧ (True)) (fun u t => jRt (dC, dI) B base G0 EX5_areSameB H0 [] t.heap) (jA base)) 0 0 (jA base) := by
  refine Met.ofW (cc := cX5_areSame) (maxL := 3) (ret := (some .boolean)) (by decide) rfl ?_
  intro p e s m args below meth c s₁ Bd hml hv
  obtain ⟨rfl, hH0, hX, hG, hg_r0, hg_r1, hP0, hp0, hp1⟩ := hv
  have hK := hG.1
  have hx := Bd.exec
  have hb := Bd.bytes
  have hr := Bd.returns
  have hts := atoms_spec (ws := (jw yX5_areSame cX5_areSame 3 (some .boolean))) Bd.pre
  have htw : ∀ w ∈ jWl, w.before _ s = true := fun w h => hts w (List.mem_cons_of_mem _ h)
  have hown : s.vm.findClass RX5 = some m.cls := findClass_of_methodNamed Bd.named
  have hlocks := Bd.notSynchronized
  obtain ⟨Q, hQ⟩ : ∃ Q, Q = MQ below (va_Qi (S := Unit) (fun r u => (r = 0 ∨ r = 1) ∧ (True)) (fun u t => jRt (dC, dI) B base G0 EX5_areSameB H0 [] t.heap) (jA base)) ([.ref r0, .ref r1] : List Value).toArray s 0 0 (jA base) := ⟨_, rfl⟩
  rw [← hQ]
  have hl := lv_entry ([.ref r0, .ref r1]) (n := 3) (Nat.le_of_ble_eq_true rfl)
  rw [lg_entry_eq]
  generalize (lg_sl ([.ref r0, .ref r1]) ++ List.replicate (3 - (lg_sl ([.ref r0, .ref r1])).length) Slot.unset).toArray = ls at hl ⊢
  have hl : lv_has ls 3 [(0, .ref r0), (1, .ref r1)] := hl
  generalize hR : (headSpec (jw yX5_areSame cX5_areSame 3 (some .boolean)) ({ frames := 1, cells := 0, slots := 0, locals := 22 })).room = R
  subst hH0
  have hh : jSt (dC, dI) B base G0 G0 EX5_areSameB s.heap 0 0 [] [] [] s.heap [] := jSt.start hX hP0 jMc.nil jIs.nil
  clear hX hP0
  have hk0 : (0 : Int32).toInt = 0 := by decide
  have hk1 : (1 : Int32).toInt = 1 := by decide
  refine lv_aload_n hx hb dX5_areSame_0 rfl (lv_at hl 0 rfl) ?_
  refine j7_len hx hb hK hh hB280 1 rfl (by decide) hg_r0 (by omega) dX5_areSame_1 (fun z_1 hz_1 => ?_)
  refine lv_aload_n hx hb dX5_areSame_2 rfl (lv_at hl 1 rfl) ?_
  refine j7_len hx hb hK hh hB280 1 rfl (by decide) hg_r1 (by omega) dX5_areSame_3 (fun z_2 hz_2 => ?_)
  refine lv_icmp_eq (tgt := 9) hx hb dX5_areSame_4 (by decide) (fun c_3 => ?_) (fun c_3 => ?_)
  · skip
    have c_3' : z_1.toInt = z_2.toInt := jb_eq (rfl) (rfl) c_3
    refine lv_iconst (v := 0) hx hb dX5_areSame_9 (by decide) ?_
    refine lv_istore_n (lv' := [(2, .int 0), (0, .ref r0), (1, .ref r1)]) hx hb dX5_areSame_10 rfl hl (by decide) rfl (fun ls hl => ?_)
    have L11 : ∀ (N : Nat) (v2_4 : Int32) (H_4 : Heap) (locs_4 : List Loc), jSt (dC, dI) B base G0 G0 EX5_areSameB s.heap 0 0 [] [] [] H_4 locs_4 → (0 ≤ v2_4.toInt ∧ v2_4.toInt ≤ n0) → (n0 - v2_4.toInt : Int) < N → ∀ ls : Array Slot, lv_has ls 3 [(0, .ref r0), (1, .ref r1), (2, .int v2_4)] → W p l e R s m ([.ref r0, .ref r1] : List Value).toArray below meth c H_4 locs_4 0 0 Q (F0 m 11 ls []) := by
      intro N
      induction N with
      | zero => intro v2_4 H_4 locs_4 hh_4  hi_4 hm; exact absurd hm (by omega)
      | succ N L11 =>
        intro v2_4 H_4 locs_4 hh_4  hi_4 hm_4 ls hl
        obtain ⟨hi_4_0, hi_4_1⟩ := hi_4
        refine lv_iload_n hx hb dX5_areSame_11 rfl (lv_at hl 2 rfl) ?_
        refine lv_aload_n hx hb dX5_areSame_12 rfl (lv_at hl 0 rfl) ?_
        refine j7_len hx hb hK hh_4 hB280 1 rfl (by decide) hg_r0 (by omega) dX5_areSame_13 (fun z_5 hz_5 => ?_)
        refine lv_icmp_ge (tgt := 37) hx hb dX5_areSame_14 (by decide) (fun c_6 => ?_) (fun c_6 => ?_)
        · skip
          have c_6' : v2_4.toInt ≥ z_5.toInt := jb_ge (rfl) (rfl) c_6
          refine lv_iconst (v := 1) hx hb dX5_areSame_37 (by decide) ?_
          rw [hQ]
          exact W.zret (v := 1) hx hb hr (jb_nz (Or.inr rfl)) (fun t ht hW => ⟨⟨1, (), rfl, ⟨(Or.inr rfl), trivial⟩, hh_4.rt (M1 := []) [] rfl ht⟩, by rw [ht]; try exact hh_4.1.1, fun q h9 hq => by rw [ht]; try exact hh_4.1.2.1 q h9 hq⟩) hh_4.1.2.2 dX5_areSame_38
        · skip
          have c_6' : v2_4.toInt < z_5.toInt := jb_ge_n (rfl) (rfl) c_6
          refine lv_aload_n hx hb dX5_areSame_17 rfl (lv_at hl 0 rfl) ?_
          refine lv_iload_n hx hb dX5_areSame_18 rfl (lv_at hl 2 rfl) ?_
          refine j7_iald hx hb hK hh_4 hB280 1 rfl (by decide) hg_r0 (x := v2_4.toInt) (rfl) (by omega) dX5_areSame_19 (fun z_7 (hz_7 : -1 ≤ z_7.toInt) => ?_)
          refine lv_aload_n hx hb dX5_areSame_20 rfl (lv_at hl 1 rfl) ?_
          refine lv_iload_n hx hb dX5_areSame_21 rfl (lv_at hl 2 rfl) ?_
          refine j7_iald hx hb hK hh_4 hB280 1 rfl (by decide) hg_r1 (x := v2_4.toInt) (rfl) (by omega) dX5_areSame_22 (fun z_8 (hz_8 : -1 ≤ z_8.toInt) => ?_)
          refine vp_callSi (W.runS (As := [.int z_7, .int z_8]) (rest := []) ⟨hx, hb, hml, hown, hts⟩ (wX5_areAlike l dC dI ca base H_4 z_7 z_8) (va_cwS 2 hts (jgS (jWr_86 _ (List.mem_of_getElem? (i := 9) rfl)) (jWr_86 _ (List.mem_of_getElem? (i := 10) rfl)) (jWr_2 _ (List.mem_of_getElem? (i := 4) rfl)) (jWr_86 _ (List.mem_of_getElem? (i := 11) rfl))) rfl rfl rfl (by decide +kernel) ⟨by rw [← hR]; exact Nat.le_of_ble_eq_true rfl, by rw [← hR]; exact Nat.le_of_ble_eq_true rfl⟩) ⟨fun a U g mk q => by obtain ⟨q0, q1, qK, q9⟩ := q; exact ⟨q0, q1, jG.calling g mk a qK, q9⟩, fun U hU hW => ⟨rfl, hU, hG.step hW hU hh_4.1, by first | trivial | omega | (constructor <;> omega)⟩⟩ rfl rfl hl.1 rfl (lv_room (Nat.le_of_ble_eq_true rfl)) dX5_areSame_23 ⟨Nat.zero_le _, Nat.zero_le _⟩) (fun r_9 hr_9 => ?_)
          have hr_9' : r_9.toInt = 0 ∨ r_9.toInt = 1 := jb_01 hr_9
          refine lv_if_ne (tgt := 31) hx hb dX5_areSame_26 (by decide) (fun c_10 => ?_) (fun c_10 => ?_)
          · skip
            have c_10' : r_9.toInt ≠ 0 := jb_ne (rfl) ((by decide)) c_10
            obtain ⟨z_11, ez_11⟩ : ∃ y : Int32, y = v2_4 + 1 := ⟨_, rfl⟩
            refine lv_iinc (v := z_11) (lv' := [(2, .int z_11), (0, .ref r0), (1, .ref r1)]) hx hb dX5_areSame_31 hl (k := 2) rfl (by rw [ez_11]; rfl) (by decide) rfl (fun ls hl => ?_)
            have hz_11 : z_11.toInt = v2_4.toInt + 1 := by rw [ez_11]; exact jb_iadd2 (rfl) (by decide) (by omega)
            refine lv_goto (tgt := 11) hx hb dX5_areSame_34 (by decide) ?_
            exact L11 z_11 _ _ hh_4 (by first | omega | (refine ⟨?_, ?_⟩ <;> (first | omega | rfl | assumption | decide | exact Or.inl rfl | exact Or.inr rfl | (simp only; omega)))) (by omega) _ (lv_sub hl [1, 2, 0] rfl)
          · skip
            have c_10' : r_9.toInt = 0 := jb_ne_n (rfl) ((by decide)) c_10
            refine lv_iconst (v := 0) hx hb dX5_areSame_29 (by decide) ?_
            rw [hQ]
            exact W.zret (v := 0) hx hb hr (jb_nz (Or.inl rfl)) (fun t ht hW => ⟨⟨0, (), rfl, ⟨(Or.inl rfl), trivial⟩, hh_4.rt (M1 := []) [] rfl ht⟩, by rw [ht]; try exact hh_4.1.1, fun q h9 hq => by rw [ht]; try exact hh_4.1.2.1 q h9 hq⟩) hh_4.1.2.2 dX5_areSame_30
    exact L11 (n0 - (0 : Int32).toInt : Int).toNat.succ 0 _ _ hh (by first | omega | (refine ⟨?_, ?_⟩ <;> (first | omega | rfl | assumption | decide | exact Or.inl rfl | exact Or.inr rfl | (simp only; omega)))) (by omega) _ (lv_sub hl [1, 2, 0] rfl)
  · skip
    have c_3' : z_1.toInt ≠ z_2.toInt := jb_eq_n (rfl) (rfl) c_3
    refine lv_iconst (v := 0) hx hb dX5_areSame_7 (by decide) ?_
    rw [hQ]
    exact W.zret (v := 0) hx hb hr (jb_nz (Or.inl rfl)) (fun t ht hW => ⟨⟨0, (), rfl, ⟨(Or.inl rfl), trivial⟩, hh.rt (M1 := []) [] rfl ht⟩, by rw [ht]; try exact hh.1.1, fun q h9 hq => by rw [ht]; try exact hh.1.2.1 q h9 hq⟩) hh.1.2.2 dX5_areSame_8
set_option maxHeartbeats 4000000 in
set_option maxRecDepth 20000 in
theorem uX5_leadingBoundB (l : Launch) (dC : Nat → ClassId) (dI : Nat → Nat → Nat) (ca : Nat → ClassId) (base : Nat) (B : jF) (hB : jBok B) (hAp : jAp (dC, dI)) (hB280 : ∀ n G a H, B 280 n G a H ↔ jAr (dC, dI) (ca 1) (fun j z => -1 ≤ z.toInt) n a H) (G0 : jT) (H0 : Heap) (r0 : Nat) (n0 : Nat) (ff : Nat → Int32) : Met l yX5_leadingBound (jw yX5_leadingBound cX5_leadingBound 2 (some .int)) ({ frames := 0, cells := 0, slots := 0, locals := 0 }) (va_Pc [.ref r0] (fun U => U.heap = H0 ∧ jX B base G0 [] H0 ∧ jG dC dI ca base U ∧ G0 r0 = some (280, n0) ∧ jP (dC, dI) G0 H0 [] ∧ jMc (dC, dI) G0 H0 [(r0, 280, n0, ca 1, ff)] ∧ n0 < 2147483648)) (va_Qi (S := Unit) (fun r u => (0 ≤ r.toInt ∧ r.toInt ≤ n0 ∧ r.toInt ≤ 12 ∧ jLd ff n0 r.toInt)) (fun u t => jRt (dC, dI) B base G0 EX5_leadingBoundB H0 [] t.heap) (jA base)) 0 0 (jA base) := by
  refine Met.ofW (cc := cX5_leadingBound) (maxL := 2) (ret := (some .int)) (by decide) rfl ?_
  intro p e s m args below meth c s₁ Bd hml hv
  obtain ⟨rfl, hH0, hX, hG, hg_r0, hP0, hM0, hp0⟩ := hv
  have hK := hG.1
  have hx := Bd.exec
  have hb := Bd.bytes
  have hr := Bd.returns
  have hts := atoms_spec (ws := (jw yX5_leadingBound cX5_leadingBound 2 (some .int))) Bd.pre
  have htw : ∀ w ∈ jWl, w.before _ s = true := fun w h => hts w (List.mem_cons_of_mem _ h)
  have hown : s.vm.findClass RX5 = some m.cls := findClass_of_methodNamed Bd.named
  have hlocks := Bd.notSynchronized
  obtain ⟨Q, hQ⟩ : ∃ Q, Q = MQ below (va_Qi (S := Unit) (fun r u => (0 ≤ r.toInt ∧ r.toInt ≤ n0 ∧ r.toInt ≤ 12 ∧ jLd ff n0 r.toInt)) (fun u t => jRt (dC, dI) B base G0 EX5_leadingBoundB H0 [] t.heap) (jA base)) ([.ref r0] : List Value).toArray s 0 0 (jA base) := ⟨_, rfl⟩
  rw [← hQ]
  have hl := lv_entry ([.ref r0]) (n := 2) (Nat.le_of_ble_eq_true rfl)
  rw [lg_entry_eq]
  generalize (lg_sl ([.ref r0]) ++ List.replicate (2 - (lg_sl ([.ref r0])).length) Slot.unset).toArray = ls at hl ⊢
  have hl : lv_has ls 2 [(0, .ref r0)] := hl
  generalize hR : (headSpec (jw yX5_leadingBound cX5_leadingBound 2 (some .int)) ({ frames := 0, cells := 0, slots := 0, locals := 0 })).room = R
  subst hH0
  have hh : jSt (dC, dI) B base G0 G0 EX5_leadingBoundB s.heap 0 0 [] [(r0, 280, n0, ca 1, ff)] [] s.heap [] := jSt.start hX hP0 hM0 jIs.nil
  clear hX hP0
  have hk0 : (0 : Int32).toInt = 0 := by decide
  have hk1 : (1 : Int32).toInt = 1 := by decide
  have hk5 : (5 : Int32).toInt = 5 := by decide
  have hk12 : (12 : Int32).toInt = 12 := by decide
  have hk15 : (15 : Int32).toInt = 15 := by decide
  refine lv_iconst (v := 0) hx hb dX5_leadingBound_0 (by decide) ?_
  refine lv_istore_n (lv' := [(1, .int 0), (0, .ref r0)]) hx hb dX5_leadingBound_1 rfl hl (by decide) rfl (fun ls hl => ?_)
  have L2 : ∀ (N : Nat) (v1_1 : Int32) (H_1 : Heap) (locs_1 : List Loc), jSt (dC, dI) B base G0 G0 EX5_leadingBoundB s.heap 0 0 [] [(r0, 280, n0, ca 1, ff)] [] H_1 locs_1 → (0 ≤ v1_1.toInt ∧ v1_1.toInt ≤ n0 ∧ v1_1.toInt ≤ 12 ∧ jLe5 ff v1_1.toInt) → (12 - v1_1.toInt : Int) < N → ∀ ls : Array Slot, lv_has ls 2 [(0, .ref r0), (1, .int v1_1)] → W p l e R s m ([.ref r0] : List Value).toArray below meth c H_1 locs_1 0 0 Q (F0 m 2 ls []) := by
    intro N
    induction N with
    | zero => intro v1_1 H_1 locs_1 hh_1  hi_1 hm; exact absurd hm (by omega)
    | succ N L2 =>
      intro v1_1 H_1 locs_1 hh_1  hi_1 hm_1 ls hl
      obtain ⟨hi_1_0, hi_1_1, hi_1_2, hi_1_3⟩ := hi_1
      refine lv_iload_n hx hb dX5_leadingBound_2 rfl (lv_at hl 1 rfl) ?_
      refine lv_aload_n hx hb dX5_leadingBound_3 rfl (lv_at hl 0 rfl) ?_
      refine j7_len hx hb hK hh_1 hB280 1 rfl (by decide) hg_r0 (by omega) dX5_leadingBound_4 (fun z_2 hz_2 => ?_)
      refine lv_icmp_ge (tgt := 30) hx hb dX5_leadingBound_5 (by decide) (fun c_3 => ?_) (fun c_3 => ?_)
      · skip
        have c_3' : v1_1.toInt ≥ z_2.toInt := jb_ge (rfl) (rfl) c_3
        refine lv_iload_n hx hb dX5_leadingBound_30 rfl (lv_at hl 1 rfl) ?_
        rw [hQ]
        exact W.iret (v := v1_1) hx hb hr (fun t ht hW => ⟨⟨v1_1, (), rfl, by refine ⟨by omega, by omega, by omega, ?_⟩; exact And.intro hi_1_3 (by omega), hh_1.rt (M1 := []) [] rfl ht⟩, by rw [ht]; try exact hh_1.1.1, fun q h9 hq => by rw [ht]; try exact hh_1.1.2.1 q h9 hq⟩) hh_1.1.2.2 dX5_leadingBound_31
      · skip
        have c_3' : v1_1.toInt < z_2.toInt := jb_ge_n (rfl) (rfl) c_3
        refine lv_iload_n hx hb dX5_leadingBound_8 rfl (lv_at hl 1 rfl) ?_
        refine lv_bipush (v := 12) hx hb dX5_leadingBound_9 (by decide) ?_
        refine lv_icmp_ge (tgt := 30) hx hb dX5_leadingBound_11 (by decide) (fun c_4 => ?_) (fun c_4 => ?_)
        · skip
          have c_4' : v1_1.toInt ≥ 12 := jb_ge (rfl) ((by decide)) c_4
          refine lv_iload_n hx hb dX5_leadingBound_30 rfl (lv_at hl 1 rfl) ?_
          rw [hQ]
          exact W.iret (v := v1_1) hx hb hr (fun t ht hW => ⟨⟨v1_1, (), rfl, by refine ⟨by omega, by omega, by omega, ?_⟩; exact And.intro hi_1_3 (by omega), hh_1.rt (M1 := []) [] rfl ht⟩, by rw [ht]; try exact hh_1.1.1, fun q h9 hq => by rw [ht]; try exact hh_1.1.2.1 q h9 hq⟩) hh_1.1.2.2 dX5_leadingBound_31
        · skip
          have c_4' : v1_1.toInt < 12 := jb_ge_n (rfl) ((by decide)) c_4
          refine lv_aload_n hx hb dX5_leadingBound_14 rfl (lv_at hl 0 rfl) ?_
          refine lv_iload_n hx hb dX5_leadingBound_15 rfl (lv_at hl 1 rfl) ?_
          refine j7_ialdM hx hb hK hh_1 hB280 1 rfl (by decide) hg_r0 (x := v1_1.toInt) (rfl) (by omega) (j := 0) rfl dX5_leadingBound_16 (fun z_5 ez_5 (hz_5 : -1 ≤ z_5.toInt) => ?_)
          have hqz_5 : z_5.toInt = jSo ff (v1_1.toInt) := by unfold jSo; rw [ez_5]
          refine lv_bipush (v := 15) hx hb dX5_leadingBound_17 (by decide) ?_
          refine lv_iand hx hb dX5_leadingBound_19 ?_
          refine lv_topi (fun z_6 ez_6 => ?_)
          have hz_6 : 0 ≤ z_6.toInt ∧ z_6.toInt ≤ 15 := by rw [ez_6]; exact jb_and z_5 (m := 15) (k := 4) (by decide) (by decide)
          have hbz_6 : z_6.toInt = z_5.toInt % 16 := by rw [ez_6, jb_and15]
          refine lv_iconst (v := 5) hx hb dX5_leadingBound_20 (by decide) ?_
          refine lv_icmp_ne (tgt := 30) hx hb dX5_leadingBound_21 (by decide) (fun c_7 => ?_) (fun c_7 => ?_)
          · skip
            have c_7' : z_6.toInt ≠ 5 := jb_ne (rfl) ((by decide)) c_7
            refine lv_iload_n hx hb dX5_leadingBound_30 rfl (lv_at hl 1 rfl) ?_
            rw [hQ]
            exact W.iret (v := v1_1) hx hb hr (fun t ht hW => ⟨⟨v1_1, (), rfl, by refine ⟨by omega, by omega, by omega, ?_⟩; exact And.intro hi_1_3 (by omega), hh_1.rt (M1 := []) [] rfl ht⟩, by rw [ht]; try exact hh_1.1.1, fun q h9 hq => by rw [ht]; try exact hh_1.1.2.1 q h9 hq⟩) hh_1.1.2.2 dX5_leadingBound_31
          · skip
            have c_7' : z_6.toInt = 5 := jb_ne_n (rfl) ((by decide)) c_7
            obtain ⟨z_8, ez_8⟩ : ∃ y : Int32, y = v1_1 + 1 := ⟨_, rfl⟩
            refine lv_iinc (v := z_8) (lv' := [(1, .int z_8), (0, .ref r0)]) hx hb dX5_leadingBound_24 hl (k := 1) rfl (by rw [ez_8]; rfl) (by decide) rfl (fun ls hl => ?_)
            have hz_8 : z_8.toInt = v1_1.toInt + 1 := by rw [ez_8]; exact jb_iadd2 (rfl) (by decide) (by omega)
            refine lv_goto (tgt := 2) hx hb dX5_leadingBound_27 (by decide) ?_
            exact L2 z_8 _ _ hh_1 (by refine ⟨by omega, by omega, by omega, hi_1_3.step (by omega) (by omega)⟩) (by omega) _ (lv_sub hl [1, 0] rfl)
  exact L2 (12 - (0 : Int32).toInt : Int).toNat.succ 0 _ _ hh (by refine ⟨by omega, by omega, by omega, fun j h0 h1 => by omega⟩) (by omega) _ (lv_sub hl [1, 0] rfl)
set_option maxHeartbeats 4000000 in
set_option maxRecDepth 20000 in
theorem uX11_endOfB (l : Launch) (dC : Nat → ClassId) (dI : Nat → Nat → Nat) (ca : Nat → ClassId) (base : Nat) (B : jF) (hB : jBok B) (hAp : jAp (dC, dI)) (hB280 : ∀ n G a H, B 280 n G a H ↔ jAr (dC, dI) (ca 1) (fun j z => -1 ≤ z.toInt) n a H) (G0 : jT) (H0 : Heap) (r0 : Nat) (a1 : Int32) (a2 : Int32) (n0 : Nat) : Met l yX11_endOf (jw yX11_endOf cX11_endOf 6 (some .int)) ({ frames := 0, cells := 0, slots := 0, locals := 0 }) (va_Pc [.ref r0, .int a1, .int a2] (fun U => U.heap = H0 ∧ jX B base G0 [] H0 ∧ jG dC dI ca base U ∧ G0 r0 = some (280, n0) ∧ jP (dC, dI) G0 H0 [] ∧ 0 ≤ a1.toInt ∧ a1.toInt ≤ 200000 ∧ n0 ≤ 100000)) (va_Qi (S := Unit) (fun r u => (a1.toInt ≤ r.toInt ∧ (r.toInt = a1.toInt ∨ r.toInt ≤ n0))) (fun u t => jRt (dC, dI) B base G0 EX11_endOfB H0 [] t.heap) (jA base)) 0 0 (jA base) := by
  refine Met.ofW (cc := cX11_endOf) (maxL := 6) (ret := (some .int)) (by decide) rfl ?_
  intro p e s m args below meth c s₁ Bd hml hv
  obtain ⟨rfl, hH0, hX, hG, hg_r0, hP0, hp0, hp1, hp2⟩ := hv
  have hK := hG.1
  have hx := Bd.exec
  have hb := Bd.bytes
  have hr := Bd.returns
  have hts := atoms_spec (ws := (jw yX11_endOf cX11_endOf 6 (some .int))) Bd.pre
  have htw : ∀ w ∈ jWl, w.before _ s = true := fun w h => hts w (List.mem_cons_of_mem _ h)
  have hown : s.vm.findClass RX11 = some m.cls := findClass_of_methodNamed Bd.named
  have hlocks := Bd.notSynchronized
  obtain ⟨Q, hQ⟩ : ∃ Q, Q = MQ below (va_Qi (S := Unit) (fun r u => (a1.toInt ≤ r.toInt ∧ (r.toInt = a1.toInt ∨ r.toInt ≤ n0))) (fun u t => jRt (dC, dI) B base G0 EX11_endOfB H0 [] t.heap) (jA base)) ([.ref r0, .int a1, .int a2] : List Value).toArray s 0 0 (jA base) := ⟨_, rfl⟩
  rw [← hQ]
  have hl := lv_entry ([.ref r0, .int a1, .int a2]) (n := 6) (Nat.le_of_ble_eq_true rfl)
  rw [lg_entry_eq]
  generalize (lg_sl ([.ref r0, .int a1, .int a2]) ++ List.replicate (6 - (lg_sl ([.ref r0, .int a1, .int a2])).length) Slot.unset).toArray = ls at hl ⊢
  have hl : lv_has ls 6 [(0, .ref r0), (1, .int a1), (2, .int a2)] := hl
  generalize hR : (headSpec (jw yX11_endOf cX11_endOf 6 (some .int)) ({ frames := 0, cells := 0, slots := 0, locals := 0 })).room = R
  subst hH0
  have hh : jSt (dC, dI) B base G0 G0 EX11_endOfB s.heap 0 0 [] [] [] s.heap [] := jSt.start hX hP0 jMc.nil jIs.nil
  clear hX hP0
  have hk0 : (0 : Int32).toInt = 0 := by decide
  have hk1 : (1 : Int32).toInt = 1 := by decide
  have hk4 : (4 : Int32).toInt = 4 := by decide
  have hk5 : (5 : Int32).toInt = 5 := by decide
  have hk6 : (6 : Int32).toInt = 6 := by decide
  have hk7 : (7 : Int32).toInt = 7 := by decide
  have hk8 : (8 : Int32).toInt = 8 := by decide
  have hk15 : (15 : Int32).toInt = 15 := by decide
  have hk2047 : (2047 : Int32).toInt = 2047 := by decide
  have hrg_a1 := jb_rng a1
  have hrg_a2 := jb_rng a2
  refine lv_iconst (v := 1) hx hb dX11_endOf_0 (by decide) ?_
  refine lv_istore_n (lv' := [(3, .int 1), (0, .ref r0), (1, .int a1), (2, .int a2)]) hx hb dX11_endOf_1 rfl hl (by decide) rfl (fun ls hl => ?_)
  refine lv_iload_n hx hb dX11_endOf_2 rfl (lv_at hl 2 rfl) ?_
  refine lv_istore (lv' := [(4, .int a1), (3, .int 1), (0, .ref r0), (1, .int a1), (2, .int a2)]) hx hb dX11_endOf_3 hl (by decide) rfl (fun ls hl => ?_)
  have L5 : ∀ (N : Nat) (v3_1 : Int32) (v4_1 : Int32) (H_1 : Heap) (locs_1 : List Loc), jSt (dC, dI) B base G0 G0 EX11_endOfB s.heap 0 0 [] [] [] H_1 locs_1 → (a1.toInt ≤ v4_1.toInt ∧ 0 ≤ v3_1.toInt ∧ v3_1.toInt ≤ 2048 * (v4_1.toInt - a1.toInt) + 1 ∧ (v4_1.toInt = a1.toInt ∨ v4_1.toInt ≤ n0)) → (((n0 - v4_1.toInt).toNat : Int) : Int) < N → ∀ ls : Array Slot, lv_has ls 6 [(0, .ref r0), (1, .int a1), (2, .int a2), (3, .int v3_1), (4, .int v4_1)] → W p l e R s m ([.ref r0, .int a1, .int a2] : List Value).toArray below meth c H_1 locs_1 0 0 Q (F0 m 5 ls []) := by
    intro N
    induction N with
    | zero => intro v3_1 v4_1 H_1 locs_1 hh_1  hi_1 hm; exact absurd hm (by omega)
    | succ N L5 =>
      intro v3_1 v4_1 H_1 locs_1 hh_1  hi_1 hm_1 ls hl
      obtain ⟨hi_1_0, hi_1_1, hi_1_2, hi_1_3⟩ := hi_1
      refine lv_iload hx hb dX11_endOf_5 (lv_at hl 4 rfl) ?_
      refine lv_iload_n hx hb dX11_endOf_7 rfl (lv_at hl 2 rfl) ?_
      refine lv_icmp_ge (tgt := 103) hx hb dX11_endOf_8 (by decide) (fun c_2 => ?_) (fun c_2 => ?_)
      · skip
        have c_2' : v4_1.toInt ≥ a2.toInt := jb_ge (rfl) (rfl) c_2
        refine lv_iload hx hb dX11_endOf_103 (lv_at hl 4 rfl) ?_
        rw [hQ]
        exact W.iret (v := v4_1) hx hb hr (fun t ht hW => ⟨⟨v4_1, (), rfl, by first | omega | (refine ⟨?_, ?_⟩ <;> (first | omega | rfl | assumption | decide | exact Or.inl rfl | exact Or.inr rfl | (simp only; omega))), hh_1.rt (M1 := []) [] rfl ht⟩, by rw [ht]; try exact hh_1.1.1, fun q h9 hq => by rw [ht]; try exact hh_1.1.2.1 q h9 hq⟩) hh_1.1.2.2 dX11_endOf_105
      · skip
        have c_2' : v4_1.toInt < a2.toInt := jb_ge_n (rfl) (rfl) c_2
        refine lv_iload hx hb dX11_endOf_11 (lv_at hl 4 rfl) ?_
        refine lv_aload_n hx hb dX11_endOf_13 rfl (lv_at hl 0 rfl) ?_
        refine j7_len hx hb hK hh_1 hB280 1 rfl (by decide) hg_r0 (by omega) dX11_endOf_14 (fun z_3 hz_3 => ?_)
        refine lv_icmp_ge (tgt := 103) hx hb dX11_endOf_15 (by decide) (fun c_4 => ?_) (fun c_4 => ?_)
        · skip
          have c_4' : v4_1.toInt ≥ z_3.toInt := jb_ge (rfl) (rfl) c_4
          refine lv_iload hx hb dX11_endOf_103 (lv_at hl 4 rfl) ?_
          rw [hQ]
          exact W.iret (v := v4_1) hx hb hr (fun t ht hW => ⟨⟨v4_1, (), rfl, by first | omega | (refine ⟨?_, ?_⟩ <;> (first | omega | rfl | assumption | decide | exact Or.inl rfl | exact Or.inr rfl | (simp only; omega))), hh_1.rt (M1 := []) [] rfl ht⟩, by rw [ht]; try exact hh_1.1.1, fun q h9 hq => by rw [ht]; try exact hh_1.1.2.1 q h9 hq⟩) hh_1.1.2.2 dX11_endOf_105
        · skip
          have c_4' : v4_1.toInt < z_3.toInt := jb_ge_n (rfl) (rfl) c_4
          refine lv_iload_n hx hb dX11_endOf_18 rfl (lv_at hl 3 rfl) ?_
          refine lv_if_le (tgt := 103) hx hb dX11_endOf_19 (by decide) (fun c_5 => ?_) (fun c_5 => ?_)
          · skip
            have c_5' : v3_1.toInt ≤ 0 := jb_le (rfl) ((by decide)) c_5
            refine lv_iload hx hb dX11_endOf_103 (lv_at hl 4 rfl) ?_
            rw [hQ]
            exact W.iret (v := v4_1) hx hb hr (fun t ht hW => ⟨⟨v4_1, (), rfl, by first | omega | (refine ⟨?_, ?_⟩ <;> (first | omega | rfl | assumption | decide | exact Or.inl rfl | exact Or.inr rfl | (simp only; omega))), hh_1.rt (M1 := []) [] rfl ht⟩, by rw [ht]; try exact hh_1.1.1, fun q h9 hq => by rw [ht]; try exact hh_1.1.2.1 q h9 hq⟩) hh_1.1.2.2 dX11_endOf_105
          · skip
            have c_5' : v3_1.toInt > 0 := jb_le_n (rfl) ((by decide)) c_5
            refine lv_aload_n hx hb dX11_endOf_22 rfl (lv_at hl 0 rfl) ?_
            refine lv_iload hx hb dX11_endOf_23 (lv_at hl 4 rfl) ?_
            refine j7_iald hx hb hK hh_1 hB280 1 rfl (by decide) hg_r0 (x := v4_1.toInt) (rfl) (by omega) dX11_endOf_25 (fun z_6 (hz_6 : -1 ≤ z_6.toInt) => ?_)
            refine lv_bipush (v := 15) hx hb dX11_endOf_26 (by decide) ?_
            refine lv_iand hx hb dX11_endOf_28 ?_
            refine lv_topi (fun z_7 ez_7 => ?_)
            have hz_7 : 0 ≤ z_7.toInt ∧ z_7.toInt ≤ 15 := by rw [ez_7]; exact jb_and z_6 (m := 15) (k := 4) (by decide) (by decide)
            refine lv_istore (lv' := [(5, .int z_7), (0, .ref r0), (1, .int a1), (2, .int a2), (3, .int v3_1), (4, .int v4_1)]) hx hb dX11_endOf_29 hl (by decide) rfl (fun ls hl => ?_)
            refine lv_iload hx hb dX11_endOf_31 (lv_at hl 0 rfl) ?_
            refine lv_iconst (v := 1) hx hb dX11_endOf_33 (by decide) ?_
            refine lv_icmp_lt (tgt := 49) hx hb dX11_endOf_34 (by decide) (fun c_8 => ?_) (fun c_8 => ?_)
            · skip
              have c_8' : z_7.toInt < 1 := jb_lt (rfl) ((by decide)) c_8
              refine lv_iload hx hb dX11_endOf_49 (lv_at hl 0 rfl) ?_
              refine lv_bipush (v := 7) hx hb dX11_endOf_51 (by decide) ?_
              refine lv_icmp_eq (tgt := 63) hx hb dX11_endOf_53 (by decide) (fun c_9 => ?_) (fun c_9 => ?_)
              · skip
                have c_9' : z_7.toInt = 7 := jb_eq (rfl) ((by decide)) c_9
                refine lv_iload_n hx hb dX11_endOf_63 rfl (lv_at hl 4 rfl) ?_
                refine lv_aload_n hx hb dX11_endOf_64 rfl (lv_at hl 1 rfl) ?_
                refine lv_iload hx hb dX11_endOf_65 (lv_at hl 5 rfl) ?_
                refine j7_iald hx hb hK hh_1 hB280 1 rfl (by decide) hg_r0 (x := v4_1.toInt) (rfl) (by omega) dX11_endOf_67 (fun z_10 (hz_10 : -1 ≤ z_10.toInt) => ?_)
                refine lv_iconst (v := 4) hx hb dX11_endOf_68 (by decide) ?_
                refine lv_ishr hx hb dX11_endOf_69 ?_
                refine lv_topi (fun z_11 ez_11 => ?_)
                have hz_11 : z_11.toInt = z_10.toInt / 2 ^ 4 := by rw [ez_11]; exact jb_ishr 4 (rfl) (by decide)
                refine lv_sipush (v := 2047) hx hb dX11_endOf_70 (by decide) ?_
                refine lv_iand hx hb dX11_endOf_73 ?_
                refine lv_topi (fun z_12 ez_12 => ?_)
                have hz_12 : 0 ≤ z_12.toInt ∧ z_12.toInt ≤ 2047 := by rw [ez_12]; exact jb_and z_11 (m := 2047) (k := 11) (by decide) (by decide)
                refine lv_iconst (v := 1) hx hb dX11_endOf_74 (by decide) ?_
                refine lv_isub hx hb dX11_endOf_75 ?_
                refine lv_topi (fun z_13 ez_13 => ?_)
                have hz_13 : z_13.toInt = z_12.toInt - 1 := by rw [ez_13]; exact jb_isub2 (rfl) ((by decide)) (by omega)
                refine lv_iadd hx hb dX11_endOf_76 ?_
                refine lv_topi (fun z_14 ez_14 => ?_)
                have hz_14 : z_14.toInt = v3_1.toInt + z_13.toInt := by rw [ez_14]; exact jb_iadd2 (rfl) (rfl) (by omega)
                refine lv_istore_n (lv' := [(3, .int z_14), (5, .int z_7), (0, .ref r0), (1, .int a1), (2, .int a2), (4, .int v4_1)]) hx hb dX11_endOf_77 rfl hl (by decide) rfl (fun ls hl => ?_)
                refine lv_goto (tgt := 97) hx hb dX11_endOf_78 (by decide) ?_
                obtain ⟨z_15, ez_15⟩ : ∃ y : Int32, y = v4_1 + 1 := ⟨_, rfl⟩
                refine lv_iinc (v := z_15) (lv' := [(4, .int z_15), (3, .int z_14), (5, .int z_7), (0, .ref r0), (1, .int a1), (2, .int a2)]) hx hb dX11_endOf_97 hl (k := 5) rfl (by rw [ez_15]; rfl) (by decide) rfl (fun ls hl => ?_)
                have hz_15 : z_15.toInt = v4_1.toInt + 1 := by rw [ez_15]; exact jb_iadd2 (rfl) (by decide) (by omega)
                refine lv_goto (tgt := 5) hx hb dX11_endOf_100 (by decide) ?_
                exact L5 z_14 z_15 _ _ hh_1 (by first | omega | (refine ⟨?_, ?_, ?_, ?_⟩ <;> (first | omega | rfl | assumption | decide | exact Or.inl rfl | exact Or.inr rfl | (simp only; omega)))) (by omega) _ (lv_sub hl [3, 4, 5, 1, 0] rfl)
              · skip
                have c_9' : z_7.toInt ≠ 7 := jb_eq_n (rfl) ((by decide)) c_9
                refine lv_iload hx hb dX11_endOf_56 (lv_at hl 0 rfl) ?_
                refine lv_bipush (v := 8) hx hb dX11_endOf_58 (by decide) ?_
                refine lv_icmp_ne (tgt := 81) hx hb dX11_endOf_60 (by decide) (fun c_16 => ?_) (fun c_16 => ?_)
                · skip
                  have c_16' : z_7.toInt ≠ 8 := jb_ne (rfl) ((by decide)) c_16
                  refine lv_iload hx hb dX11_endOf_81 (lv_at hl 0 rfl) ?_
                  refine lv_iconst (v := 5) hx hb dX11_endOf_83 (by decide) ?_
                  refine lv_icmp_eq (tgt := 97) hx hb dX11_endOf_84 (by decide) (fun c_17 => ?_) (fun c_17 => ?_)
                  · skip
                    have c_17' : z_7.toInt = 5 := jb_eq (rfl) ((by decide)) c_17
                    obtain ⟨z_18, ez_18⟩ : ∃ y : Int32, y = v4_1 + 1 := ⟨_, rfl⟩
                    refine lv_iinc (v := z_18) (lv' := [(4, .int z_18), (5, .int z_7), (0, .ref r0), (1, .int a1), (2, .int a2), (3, .int v3_1)]) hx hb dX11_endOf_97 hl (k := 5) rfl (by rw [ez_18]; rfl) (by decide) rfl (fun ls hl => ?_)
                    have hz_18 : z_18.toInt = v4_1.toInt + 1 := by rw [ez_18]; exact jb_iadd2 (rfl) (by decide) (by omega)
                    refine lv_goto (tgt := 5) hx hb dX11_endOf_100 (by decide) ?_
                    exact L5 v3_1 z_18 _ _ hh_1 (by first | omega | (refine ⟨?_, ?_, ?_, ?_⟩ <;> (first | omega | rfl | assumption | decide | exact Or.inl rfl | exact Or.inr rfl | (simp only; omega)))) (by omega) _ (lv_sub hl [2, 3, 4, 5, 0] rfl)
                  · skip
                    have c_17' : z_7.toInt ≠ 5 := jb_eq_n (rfl) ((by decide)) c_17
                    refine lv_iload hx hb dX11_endOf_87 (lv_at hl 0 rfl) ?_
                    refine lv_bipush (v := 6) hx hb dX11_endOf_89 (by decide) ?_
                    refine lv_icmp_eq (tgt := 97) hx hb dX11_endOf_91 (by decide) (fun c_19 => ?_) (fun c_19 => ?_)
                    · skip
                      have c_19' : z_7.toInt = 6 := jb_eq (rfl) ((by decide)) c_19
                      obtain ⟨z_20, ez_20⟩ : ∃ y : Int32, y = v4_1 + 1 := ⟨_, rfl⟩
                      refine lv_iinc (v := z_20) (lv' := [(4, .int z_20), (5, .int z_7), (0, .ref r0), (1, .int a1), (2, .int a2), (3, .int v3_1)]) hx hb dX11_endOf_97 hl (k := 5) rfl (by rw [ez_20]; rfl) (by decide) rfl (fun ls hl => ?_)
                      have hz_20 : z_20.toInt = v4_1.toInt + 1 := by rw [ez_20]; exact jb_iadd2 (rfl) (by decide) (by omega)
                      refine lv_goto (tgt := 5) hx hb dX11_endOf_100 (by decide) ?_
                      exact L5 v3_1 z_20 _ _ hh_1 (by first | omega | (refine ⟨?_, ?_, ?_, ?_⟩ <;> (first | omega | rfl | assumption | decide | exact Or.inl rfl | exact Or.inr rfl | (simp only; omega)))) (by omega) _ (lv_sub hl [2, 3, 4, 5, 0] rfl)
                    · skip
                      have c_19' : z_7.toInt ≠ 6 := jb_eq_n (rfl) ((by decide)) c_19
                      obtain ⟨z_21, ez_21⟩ : ∃ y : Int32, y = v3_1 + (-1) := ⟨_, rfl⟩
                      refine lv_iinc (v := z_21) (lv' := [(3, .int z_21), (5, .int z_7), (0, .ref r0), (1, .int a1), (2, .int a2), (4, .int v4_1)]) hx hb dX11_endOf_94 hl (k := 4) rfl (by rw [ez_21]; rfl) (by decide) rfl (fun ls hl => ?_)
                      have hz_21 : z_21.toInt = v3_1.toInt + (-1) := by rw [ez_21]; exact jb_iadd2 (rfl) (by decide) (by omega)
                      obtain ⟨z_22, ez_22⟩ : ∃ y : Int32, y = v4_1 + 1 := ⟨_, rfl⟩
                      refine lv_iinc (v := z_22) (lv' := [(4, .int z_22), (3, .int z_21), (5, .int z_7), (0, .ref r0), (1, .int a1), (2, .int a2)]) hx hb dX11_endOf_97 hl (k := 5) rfl (by rw [ez_22]; rfl) (by decide) rfl (fun ls hl => ?_)
                      have hz_22 : z_22.toInt = v4_1.toInt + 1 := by rw [ez_22]; exact jb_iadd2 (rfl) (by decide) (by omega)
                      refine lv_goto (tgt := 5) hx hb dX11_endOf_100 (by decide) ?_
                      exact L5 z_21 z_22 _ _ hh_1 (by first | omega | (refine ⟨?_, ?_, ?_, ?_⟩ <;> (first | omega | rfl | assumption | decide | exact Or.inl rfl | exact Or.inr rfl | (simp only; omega)))) (by omega) _ (lv_sub hl [3, 4, 5, 1, 0] rfl)
                · skip
                  have c_16' : z_7.toInt = 8 := jb_ne_n (rfl) ((by decide)) c_16
                  refine lv_iload_n hx hb dX11_endOf_63 rfl (lv_at hl 4 rfl) ?_
                  refine lv_aload_n hx hb dX11_endOf_64 rfl (lv_at hl 1 rfl) ?_
                  refine lv_iload hx hb dX11_endOf_65 (lv_at hl 5 rfl) ?_
                  refine j7_iald hx hb hK hh_1 hB280 1 rfl (by decide) hg_r0 (x := v4_1.toInt) (rfl) (by omega) dX11_endOf_67 (fun z_23 (hz_23 : -1 ≤ z_23.toInt) => ?_)
                  refine lv_iconst (v := 4) hx hb dX11_endOf_68 (by decide) ?_
                  refine lv_ishr hx hb dX11_endOf_69 ?_
                  refine lv_topi (fun z_24 ez_24 => ?_)
                  have hz_24 : z_24.toInt = z_23.toInt / 2 ^ 4 := by rw [ez_24]; exact jb_ishr 4 (rfl) (by decide)
                  refine lv_sipush (v := 2047) hx hb dX11_endOf_70 (by decide) ?_
                  refine lv_iand hx hb dX11_endOf_73 ?_
                  refine lv_topi (fun z_25 ez_25 => ?_)
                  have hz_25 : 0 ≤ z_25.toInt ∧ z_25.toInt ≤ 2047 := by rw [ez_25]; exact jb_and z_24 (m := 2047) (k := 11) (by decide) (by decide)
                  refine lv_iconst (v := 1) hx hb dX11_endOf_74 (by decide) ?_
                  refine lv_isub hx hb dX11_endOf_75 ?_
                  refine lv_topi (fun z_26 ez_26 => ?_)
                  have hz_26 : z_26.toInt = z_25.toInt - 1 := by rw [ez_26]; exact jb_isub2 (rfl) ((by decide)) (by omega)
                  refine lv_iadd hx hb dX11_endOf_76 ?_
                  refine lv_topi (fun z_27 ez_27 => ?_)
                  have hz_27 : z_27.toInt = v3_1.toInt + z_26.toInt := by rw [ez_27]; exact jb_iadd2 (rfl) (rfl) (by omega)
                  refine lv_istore_n (lv' := [(3, .int z_27), (5, .int z_7), (0, .ref r0), (1, .int a1), (2, .int a2), (4, .int v4_1)]) hx hb dX11_endOf_77 rfl hl (by decide) rfl (fun ls hl => ?_)
                  refine lv_goto (tgt := 97) hx hb dX11_endOf_78 (by decide) ?_
                  obtain ⟨z_28, ez_28⟩ : ∃ y : Int32, y = v4_1 + 1 := ⟨_, rfl⟩
                  refine lv_iinc (v := z_28) (lv' := [(4, .int z_28), (3, .int z_27), (5, .int z_7), (0, .ref r0), (1, .int a1), (2, .int a2)]) hx hb dX11_endOf_97 hl (k := 5) rfl (by rw [ez_28]; rfl) (by decide) rfl (fun ls hl => ?_)
                  have hz_28 : z_28.toInt = v4_1.toInt + 1 := by rw [ez_28]; exact jb_iadd2 (rfl) (by decide) (by omega)
                  refine lv_goto (tgt := 5) hx hb dX11_endOf_100 (by decide) ?_
                  exact L5 z_27 z_28 _ _ hh_1 (by first | omega | (refine ⟨?_, ?_, ?_, ?_⟩ <;> (first | omega | rfl | assumption | decide | exact Or.inl rfl | exact Or.inr rfl | (simp only; omega)))) (by omega) _ (lv_sub hl [3, 4, 5, 1, 0] rfl)
            · skip
              have c_8' : z_7.toInt ≥ 1 := jb_lt_n (rfl) ((by decide)) c_8
              refine lv_iload hx hb dX11_endOf_37 (lv_at hl 0 rfl) ?_
              refine lv_iconst (v := 4) hx hb dX11_endOf_39 (by decide) ?_
              refine lv_icmp_gt (tgt := 49) hx hb dX11_endOf_40 (by decide) (fun c_29 => ?_) (fun c_29 => ?_)
              · skip
                have c_29' : z_7.toInt > 4 := jb_gt (rfl) ((by decide)) c_29
                refine lv_iload hx hb dX11_endOf_49 (lv_at hl 0 rfl) ?_
                refine lv_bipush (v := 7) hx hb dX11_endOf_51 (by decide) ?_
                refine lv_icmp_eq (tgt := 63) hx hb dX11_endOf_53 (by decide) (fun c_30 => ?_) (fun c_30 => ?_)
                · skip
                  have c_30' : z_7.toInt = 7 := jb_eq (rfl) ((by decide)) c_30
                  refine lv_iload_n hx hb dX11_endOf_63 rfl (lv_at hl 4 rfl) ?_
                  refine lv_aload_n hx hb dX11_endOf_64 rfl (lv_at hl 1 rfl) ?_
                  refine lv_iload hx hb dX11_endOf_65 (lv_at hl 5 rfl) ?_
                  refine j7_iald hx hb hK hh_1 hB280 1 rfl (by decide) hg_r0 (x := v4_1.toInt) (rfl) (by omega) dX11_endOf_67 (fun z_31 (hz_31 : -1 ≤ z_31.toInt) => ?_)
                  refine lv_iconst (v := 4) hx hb dX11_endOf_68 (by decide) ?_
                  refine lv_ishr hx hb dX11_endOf_69 ?_
                  refine lv_topi (fun z_32 ez_32 => ?_)
                  have hz_32 : z_32.toInt = z_31.toInt / 2 ^ 4 := by rw [ez_32]; exact jb_ishr 4 (rfl) (by decide)
                  refine lv_sipush (v := 2047) hx hb dX11_endOf_70 (by decide) ?_
                  refine lv_iand hx hb dX11_endOf_73 ?_
                  refine lv_topi (fun z_33 ez_33 => ?_)
                  have hz_33 : 0 ≤ z_33.toInt ∧ z_33.toInt ≤ 2047 := by rw [ez_33]; exact jb_and z_32 (m := 2047) (k := 11) (by decide) (by decide)
                  refine lv_iconst (v := 1) hx hb dX11_endOf_74 (by decide) ?_
                  refine lv_isub hx hb dX11_endOf_75 ?_
                  refine lv_topi (fun z_34 ez_34 => ?_)
                  have hz_34 : z_34.toInt = z_33.toInt - 1 := by rw [ez_34]; exact jb_isub2 (rfl) ((by decide)) (by omega)
                  refine lv_iadd hx hb dX11_endOf_76 ?_
                  refine lv_topi (fun z_35 ez_35 => ?_)
                  have hz_35 : z_35.toInt = v3_1.toInt + z_34.toInt := by rw [ez_35]; exact jb_iadd2 (rfl) (rfl) (by omega)
                  refine lv_istore_n (lv' := [(3, .int z_35), (5, .int z_7), (0, .ref r0), (1, .int a1), (2, .int a2), (4, .int v4_1)]) hx hb dX11_endOf_77 rfl hl (by decide) rfl (fun ls hl => ?_)
                  refine lv_goto (tgt := 97) hx hb dX11_endOf_78 (by decide) ?_
                  obtain ⟨z_36, ez_36⟩ : ∃ y : Int32, y = v4_1 + 1 := ⟨_, rfl⟩
                  refine lv_iinc (v := z_36) (lv' := [(4, .int z_36), (3, .int z_35), (5, .int z_7), (0, .ref r0), (1, .int a1), (2, .int a2)]) hx hb dX11_endOf_97 hl (k := 5) rfl (by rw [ez_36]; rfl) (by decide) rfl (fun ls hl => ?_)
                  have hz_36 : z_36.toInt = v4_1.toInt + 1 := by rw [ez_36]; exact jb_iadd2 (rfl) (by decide) (by omega)
                  refine lv_goto (tgt := 5) hx hb dX11_endOf_100 (by decide) ?_
                  exact L5 z_35 z_36 _ _ hh_1 (by first | omega | (refine ⟨?_, ?_, ?_, ?_⟩ <;> (first | omega | rfl | assumption | decide | exact Or.inl rfl | exact Or.inr rfl | (simp only; omega)))) (by omega) _ (lv_sub hl [3, 4, 5, 1, 0] rfl)
                · skip
                  have c_30' : z_7.toInt ≠ 7 := jb_eq_n (rfl) ((by decide)) c_30
                  refine lv_iload hx hb dX11_endOf_56 (lv_at hl 0 rfl) ?_
                  refine lv_bipush (v := 8) hx hb dX11_endOf_58 (by decide) ?_
                  refine lv_icmp_ne (tgt := 81) hx hb dX11_endOf_60 (by decide) (fun c_37 => ?_) (fun c_37 => ?_)
                  · skip
                    have c_37' : z_7.toInt ≠ 8 := jb_ne (rfl) ((by decide)) c_37
                    refine lv_iload hx hb dX11_endOf_81 (lv_at hl 0 rfl) ?_
                    refine lv_iconst (v := 5) hx hb dX11_endOf_83 (by decide) ?_
                    refine lv_icmp_eq (tgt := 97) hx hb dX11_endOf_84 (by decide) (fun c_38 => ?_) (fun c_38 => ?_)
                    · skip
                      have c_38' : z_7.toInt = 5 := jb_eq (rfl) ((by decide)) c_38
                      obtain ⟨z_39, ez_39⟩ : ∃ y : Int32, y = v4_1 + 1 := ⟨_, rfl⟩
                      refine lv_iinc (v := z_39) (lv' := [(4, .int z_39), (5, .int z_7), (0, .ref r0), (1, .int a1), (2, .int a2), (3, .int v3_1)]) hx hb dX11_endOf_97 hl (k := 5) rfl (by rw [ez_39]; rfl) (by decide) rfl (fun ls hl => ?_)
                      have hz_39 : z_39.toInt = v4_1.toInt + 1 := by rw [ez_39]; exact jb_iadd2 (rfl) (by decide) (by omega)
                      refine lv_goto (tgt := 5) hx hb dX11_endOf_100 (by decide) ?_
                      exact L5 v3_1 z_39 _ _ hh_1 (by first | omega | (refine ⟨?_, ?_, ?_, ?_⟩ <;> (first | omega | rfl | assumption | decide | exact Or.inl rfl | exact Or.inr rfl | (simp only; omega)))) (by omega) _ (lv_sub hl [2, 3, 4, 5, 0] rfl)
                    · skip
                      have c_38' : z_7.toInt ≠ 5 := jb_eq_n (rfl) ((by decide)) c_38
                      refine lv_iload hx hb dX11_endOf_87 (lv_at hl 0 rfl) ?_
                      refine lv_bipush (v := 6) hx hb dX11_endOf_89 (by decide) ?_
                      refine lv_icmp_eq (tgt := 97) hx hb dX11_endOf_91 (by decide) (fun c_40 => ?_) (fun c_40 => ?_)
                      · skip
                        have c_40' : z_7.toInt = 6 := jb_eq (rfl) ((by decide)) c_40
                        obtain ⟨z_41, ez_41⟩ : ∃ y : Int32, y = v4_1 + 1 := ⟨_, rfl⟩
                        refine lv_iinc (v := z_41) (lv' := [(4, .int z_41), (5, .int z_7), (0, .ref r0), (1, .int a1), (2, .int a2), (3, .int v3_1)]) hx hb dX11_endOf_97 hl (k := 5) rfl (by rw [ez_41]; rfl) (by decide) rfl (fun ls hl => ?_)
                        have hz_41 : z_41.toInt = v4_1.toInt + 1 := by rw [ez_41]; exact jb_iadd2 (rfl) (by decide) (by omega)
                        refine lv_goto (tgt := 5) hx hb dX11_endOf_100 (by decide) ?_
                        exact L5 v3_1 z_41 _ _ hh_1 (by first | omega | (refine ⟨?_, ?_, ?_, ?_⟩ <;> (first | omega | rfl | assumption | decide | exact Or.inl rfl | exact Or.inr rfl | (simp only; omega)))) (by omega) _ (lv_sub hl [2, 3, 4, 5, 0] rfl)
                      · skip
                        have c_40' : z_7.toInt ≠ 6 := jb_eq_n (rfl) ((by decide)) c_40
                        obtain ⟨z_42, ez_42⟩ : ∃ y : Int32, y = v3_1 + (-1) := ⟨_, rfl⟩
                        refine lv_iinc (v := z_42) (lv' := [(3, .int z_42), (5, .int z_7), (0, .ref r0), (1, .int a1), (2, .int a2), (4, .int v4_1)]) hx hb dX11_endOf_94 hl (k := 4) rfl (by rw [ez_42]; rfl) (by decide) rfl (fun ls hl => ?_)
                        have hz_42 : z_42.toInt = v3_1.toInt + (-1) := by rw [ez_42]; exact jb_iadd2 (rfl) (by decide) (by omega)
                        obtain ⟨z_43, ez_43⟩ : ∃ y : Int32, y = v4_1 + 1 := ⟨_, rfl⟩
                        refine lv_iinc (v := z_43) (lv' := [(4, .int z_43), (3, .int z_42), (5, .int z_7), (0, .ref r0), (1, .int a1), (2, .int a2)]) hx hb dX11_endOf_97 hl (k := 5) rfl (by rw [ez_43]; rfl) (by decide) rfl (fun ls hl => ?_)
                        have hz_43 : z_43.toInt = v4_1.toInt + 1 := by rw [ez_43]; exact jb_iadd2 (rfl) (by decide) (by omega)
                        refine lv_goto (tgt := 5) hx hb dX11_endOf_100 (by decide) ?_
                        exact L5 z_42 z_43 _ _ hh_1 (by first | omega | (refine ⟨?_, ?_, ?_, ?_⟩ <;> (first | omega | rfl | assumption | decide | exact Or.inl rfl | exact Or.inr rfl | (simp only; omega)))) (by omega) _ (lv_sub hl [3, 4, 5, 1, 0] rfl)
                  · skip
                    have c_37' : z_7.toInt = 8 := jb_ne_n (rfl) ((by decide)) c_37
                    refine lv_iload_n hx hb dX11_endOf_63 rfl (lv_at hl 4 rfl) ?_
                    refine lv_aload_n hx hb dX11_endOf_64 rfl (lv_at hl 1 rfl) ?_
                    refine lv_iload hx hb dX11_endOf_65 (lv_at hl 5 rfl) ?_
                    refine j7_iald hx hb hK hh_1 hB280 1 rfl (by decide) hg_r0 (x := v4_1.toInt) (rfl) (by omega) dX11_endOf_67 (fun z_44 (hz_44 : -1 ≤ z_44.toInt) => ?_)
                    refine lv_iconst (v := 4) hx hb dX11_endOf_68 (by decide) ?_
                    refine lv_ishr hx hb dX11_endOf_69 ?_
                    refine lv_topi (fun z_45 ez_45 => ?_)
                    have hz_45 : z_45.toInt = z_44.toInt / 2 ^ 4 := by rw [ez_45]; exact jb_ishr 4 (rfl) (by decide)
                    refine lv_sipush (v := 2047) hx hb dX11_endOf_70 (by decide) ?_
                    refine lv_iand hx hb dX11_endOf_73 ?_
                    refine lv_topi (fun z_46 ez_46 => ?_)
                    have hz_46 : 0 ≤ z_46.toInt ∧ z_46.toInt ≤ 2047 := by rw [ez_46]; exact jb_and z_45 (m := 2047) (k := 11) (by decide) (by decide)
                    refine lv_iconst (v := 1) hx hb dX11_endOf_74 (by decide) ?_
                    refine lv_isub hx hb dX11_endOf_75 ?_
                    refine lv_topi (fun z_47 ez_47 => ?_)
                    have hz_47 : z_47.toInt = z_46.toInt - 1 := by rw [ez_47]; exact jb_isub2 (rfl) ((by decide)) (by omega)
                    refine lv_iadd hx hb dX11_endOf_76 ?_
                    refine lv_topi (fun z_48 ez_48 => ?_)
                    have hz_48 : z_48.toInt = v3_1.toInt + z_47.toInt := by rw [ez_48]; exact jb_iadd2 (rfl) (rfl) (by omega)
                    refine lv_istore_n (lv' := [(3, .int z_48), (5, .int z_7), (0, .ref r0), (1, .int a1), (2, .int a2), (4, .int v4_1)]) hx hb dX11_endOf_77 rfl hl (by decide) rfl (fun ls hl => ?_)
                    refine lv_goto (tgt := 97) hx hb dX11_endOf_78 (by decide) ?_
                    obtain ⟨z_49, ez_49⟩ : ∃ y : Int32, y = v4_1 + 1 := ⟨_, rfl⟩
                    refine lv_iinc (v := z_49) (lv' := [(4, .int z_49), (3, .int z_48), (5, .int z_7), (0, .ref r0), (1, .int a1), (2, .int a2)]) hx hb dX11_endOf_97 hl (k := 5) rfl (by rw [ez_49]; rfl) (by decide) rfl (fun ls hl => ?_)
                    have hz_49 : z_49.toInt = v4_1.toInt + 1 := by rw [ez_49]; exact jb_iadd2 (rfl) (by decide) (by omega)
                    refine lv_goto (tgt := 5) hx hb dX11_endOf_100 (by decide) ?_
                    exact L5 z_48 z_49 _ _ hh_1 (by first | omega | (refine ⟨?_, ?_, ?_, ?_⟩ <;> (first | omega | rfl | assumption | decide | exact Or.inl rfl | exact Or.inr rfl | (simp only; omega)))) (by omega) _ (lv_sub hl [3, 4, 5, 1, 0] rfl)
              · skip
                have c_29' : z_7.toInt ≤ 4 := jb_gt_n (rfl) ((by decide)) c_29
                obtain ⟨z_50, ez_50⟩ : ∃ y : Int32, y = v3_1 + 1 := ⟨_, rfl⟩
                refine lv_iinc (v := z_50) (lv' := [(3, .int z_50), (5, .int z_7), (0, .ref r0), (1, .int a1), (2, .int a2), (4, .int v4_1)]) hx hb dX11_endOf_43 hl (k := 4) rfl (by rw [ez_50]; rfl) (by decide) rfl (fun ls hl => ?_)
                have hz_50 : z_50.toInt = v3_1.toInt + 1 := by rw [ez_50]; exact jb_iadd2 (rfl) (by decide) (by omega)
                refine lv_goto (tgt := 97) hx hb dX11_endOf_46 (by decide) ?_
                obtain ⟨z_51, ez_51⟩ : ∃ y : Int32, y = v4_1 + 1 := ⟨_, rfl⟩
                refine lv_iinc (v := z_51) (lv' := [(4, .int z_51), (3, .int z_50), (5, .int z_7), (0, .ref r0), (1, .int a1), (2, .int a2)]) hx hb dX11_endOf_97 hl (k := 5) rfl (by rw [ez_51]; rfl) (by decide) rfl (fun ls hl => ?_)
                have hz_51 : z_51.toInt = v4_1.toInt + 1 := by rw [ez_51]; exact jb_iadd2 (rfl) (by decide) (by omega)
                refine lv_goto (tgt := 5) hx hb dX11_endOf_100 (by decide) ?_
                exact L5 z_50 z_51 _ _ hh_1 (by first | omega | (refine ⟨?_, ?_, ?_, ?_⟩ <;> (first | omega | rfl | assumption | decide | exact Or.inl rfl | exact Or.inr rfl | (simp only; omega)))) (by omega) _ (lv_sub hl [3, 4, 5, 1, 0] rfl)
  exact L5 (((n0 - (a1 : Int32).toInt).toNat : Int) : Int).toNat.succ 1 a1 _ _ hh (by first | omega | (refine ⟨?_, ?_, ?_, ?_⟩ <;> (first | omega | rfl | assumption | decide | exact Or.inl rfl | exact Or.inr rfl | (simp only; omega)))) (by omega) _ (lv_sub hl [2, 3, 4, 1, 0] rfl)
set_option maxHeartbeats 4000000 in
set_option maxRecDepth 20000 in
theorem uX5_standsAtB (l : Launch) (dC : Nat → ClassId) (dI : Nat → Nat → Nat) (ca : Nat → ClassId) (base : Nat) (B : jF) (hB : jBok B) (hAp : jAp (dC, dI)) (hB280 : ∀ n G a H, B 280 n G a H ↔ jAr (dC, dI) (ca 1) (fun j z => -1 ≤ z.toInt) n a H) (G0 : jT) (H0 : Heap) (r0 : Nat) (a1 : Int32) (r2 : Nat) (a3 : Int32) (a4 : Int32) (n0 : Nat) (n2 : Nat) : Met l yX5_standsAt (jw yX5_standsAt cX5_standsAt 6 (some .boolean)) ({ frames := 0, cells := 0, slots := 0, locals := 0 }) (va_Pc [.ref r0, .int a1, .ref r2, .int a3, .int a4] (fun U => U.heap = H0 ∧ jX B base G0 [] H0 ∧ jG dC dI ca base U ∧ G0 r0 = some (280, n0) ∧ G0 r2 = some (280, n2) ∧ jP (dC, dI) G0 H0 [] ∧ n0 ≤ 100000 ∧ n2 ≤ 100000 ∧ a1.toInt ≤ 100000 ∧ a3.toInt ≤ 100000 ∧ a4.toInt ≤ 1000000)) (va_Qi (S := Unit) (fun r u => (r = 0 ∨ r = 1) ∧ (True)) (fun u t => jRt (dC, dI) B base G0 EX5_standsAtB H0 [] t.heap) (jA base)) 0 0 (jA base) := by
  refine Met.ofW (cc := cX5_standsAt) (maxL := 6) (ret := (some .boolean)) (by decide) rfl ?_
  intro p e s m args below meth c s₁ Bd hml hv
  obtain ⟨rfl, hH0, hX, hG, hg_r0, hg_r2, hP0, hp0, hp1, hp2, hp3, hp4⟩ := hv
  have hK := hG.1
  have hx := Bd.exec
  have hb := Bd.bytes
  have hr := Bd.returns
  have hts := atoms_spec (ws := (jw yX5_standsAt cX5_standsAt 6 (some .boolean))) Bd.pre
  have htw : ∀ w ∈ jWl, w.before _ s = true := fun w h => hts w (List.mem_cons_of_mem _ h)
  have hown : s.vm.findClass RX5 = some m.cls := findClass_of_methodNamed Bd.named
  have hlocks := Bd.notSynchronized
  obtain ⟨Q, hQ⟩ : ∃ Q, Q = MQ below (va_Qi (S := Unit) (fun r u => (r = 0 ∨ r = 1) ∧ (True)) (fun u t => jRt (dC, dI) B base G0 EX5_standsAtB H0 [] t.heap) (jA base)) ([.ref r0, .int a1, .ref r2, .int a3, .int a4] : List Value).toArray s 0 0 (jA base) := ⟨_, rfl⟩
  rw [← hQ]
  have hl := lv_entry ([.ref r0, .int a1, .ref r2, .int a3, .int a4]) (n := 6) (Nat.le_of_ble_eq_true rfl)
  rw [lg_entry_eq]
  generalize (lg_sl ([.ref r0, .int a1, .ref r2, .int a3, .int a4]) ++ List.replicate (6 - (lg_sl ([.ref r0, .int a1, .ref r2, .int a3, .int a4])).length) Slot.unset).toArray = ls at hl ⊢
  have hl : lv_has ls 6 [(0, .ref r0), (1, .int a1), (2, .ref r2), (3, .int a3), (4, .int a4)] := hl
  generalize hR : (headSpec (jw yX5_standsAt cX5_standsAt 6 (some .boolean)) ({ frames := 0, cells := 0, slots := 0, locals := 0 })).room = R
  subst hH0
  have hh : jSt (dC, dI) B base G0 G0 EX5_standsAtB s.heap 0 0 [] [] [] s.heap [] := jSt.start hX hP0 jMc.nil jIs.nil
  clear hX hP0
  have hk0 : (0 : Int32).toInt = 0 := by decide
  have hk1 : (1 : Int32).toInt = 1 := by decide
  have hrg_a1 := jb_rng a1
  have hrg_a3 := jb_rng a3
  have hrg_a4 := jb_rng a4
  refine lv_iload_n hx hb dX5_standsAt_0 rfl (lv_at hl 1 rfl) ?_
  refine lv_if_lt (tgt := 26) hx hb dX5_standsAt_1 (by decide) (fun c_1 => ?_) (fun c_1 => ?_)
  · skip
    have c_1' : a1.toInt < 0 := jb_lt (rfl) ((by decide)) c_1
    refine lv_iconst (v := 0) hx hb dX5_standsAt_26 (by decide) ?_
    rw [hQ]
    exact W.zret (v := 0) hx hb hr (jb_nz (Or.inl rfl)) (fun t ht hW => ⟨⟨0, (), rfl, ⟨(Or.inl rfl), trivial⟩, hh.rt (M1 := []) [] rfl ht⟩, by rw [ht]; try exact hh.1.1, fun q h9 hq => by rw [ht]; try exact hh.1.2.1 q h9 hq⟩) hh.1.2.2 dX5_standsAt_27
  · skip
    have c_1' : a1.toInt ≥ 0 := jb_lt_n (rfl) ((by decide)) c_1
    refine lv_iload_n hx hb dX5_standsAt_4 rfl (lv_at hl 3 rfl) ?_
    refine lv_if_lt (tgt := 26) hx hb dX5_standsAt_5 (by decide) (fun c_2 => ?_) (fun c_2 => ?_)
    · skip
      have c_2' : a3.toInt < 0 := jb_lt (rfl) ((by decide)) c_2
      refine lv_iconst (v := 0) hx hb dX5_standsAt_26 (by decide) ?_
      rw [hQ]
      exact W.zret (v := 0) hx hb hr (jb_nz (Or.inl rfl)) (fun t ht hW => ⟨⟨0, (), rfl, ⟨(Or.inl rfl), trivial⟩, hh.rt (M1 := []) [] rfl ht⟩, by rw [ht]; try exact hh.1.1, fun q h9 hq => by rw [ht]; try exact hh.1.2.1 q h9 hq⟩) hh.1.2.2 dX5_standsAt_27
    · skip
      have c_2' : a3.toInt ≥ 0 := jb_lt_n (rfl) ((by decide)) c_2
      refine lv_iload_n hx hb dX5_standsAt_8 rfl (lv_at hl 1 rfl) ?_
      refine lv_iload hx hb dX5_standsAt_9 (lv_at hl 4 rfl) ?_
      refine lv_iadd hx hb dX5_standsAt_11 ?_
      refine lv_topi (fun z_3 ez_3 => ?_)
      have hz_3 : z_3.toInt = a1.toInt + a4.toInt := by rw [ez_3]; exact jb_iadd2 (rfl) (rfl) (by omega)
      refine lv_aload_n hx hb dX5_standsAt_12 rfl (lv_at hl 0 rfl) ?_
      refine j7_len hx hb hK hh hB280 1 rfl (by decide) hg_r0 (by omega) dX5_standsAt_13 (fun z_4 hz_4 => ?_)
      refine lv_icmp_gt (tgt := 26) hx hb dX5_standsAt_14 (by decide) (fun c_5 => ?_) (fun c_5 => ?_)
      · skip
        have c_5' : z_3.toInt > z_4.toInt := jb_gt (rfl) (rfl) c_5
        refine lv_iconst (v := 0) hx hb dX5_standsAt_26 (by decide) ?_
        rw [hQ]
        exact W.zret (v := 0) hx hb hr (jb_nz (Or.inl rfl)) (fun t ht hW => ⟨⟨0, (), rfl, ⟨(Or.inl rfl), trivial⟩, hh.rt (M1 := []) [] rfl ht⟩, by rw [ht]; try exact hh.1.1, fun q h9 hq => by rw [ht]; try exact hh.1.2.1 q h9 hq⟩) hh.1.2.2 dX5_standsAt_27
      · skip
        have c_5' : z_3.toInt ≤ z_4.toInt := jb_gt_n (rfl) (rfl) c_5
        refine lv_iload_n hx hb dX5_standsAt_17 rfl (lv_at hl 3 rfl) ?_
        refine lv_iload hx hb dX5_standsAt_18 (lv_at hl 4 rfl) ?_
        refine lv_iadd hx hb dX5_standsAt_20 ?_
        refine lv_topi (fun z_6 ez_6 => ?_)
        have hz_6 : z_6.toInt = a3.toInt + a4.toInt := by rw [ez_6]; exact jb_iadd2 (rfl) (rfl) (by omega)
        refine lv_aload_n hx hb dX5_standsAt_21 rfl (lv_at hl 2 rfl) ?_
        refine j7_len hx hb hK hh hB280 1 rfl (by decide) hg_r2 (by omega) dX5_standsAt_22 (fun z_7 hz_7 => ?_)
        refine lv_icmp_le (tgt := 28) hx hb dX5_standsAt_23 (by decide) (fun c_8 => ?_) (fun c_8 => ?_)
        · skip
          have c_8' : z_6.toInt ≤ z_7.toInt := jb_le (rfl) (rfl) c_8
          refine lv_iconst (v := 0) hx hb dX5_standsAt_28 (by decide) ?_
          refine lv_istore (lv' := [(5, .int 0), (0, .ref r0), (1, .int a1), (2, .ref r2), (3, .int a3), (4, .int a4)]) hx hb dX5_standsAt_29 hl (by decide) rfl (fun ls hl => ?_)
          have L31 : ∀ (N : Nat) (v5_9 : Int32) (H_9 : Heap) (locs_9 : List Loc), jSt (dC, dI) B base G0 G0 EX5_standsAtB s.heap 0 0 [] [] [] H_9 locs_9 → (0 ≤ v5_9.toInt) → (((a4.toInt - v5_9.toInt).toNat : Int) : Int) < N → ∀ ls : Array Slot, lv_has ls 6 [(0, .ref r0), (1, .int a1), (2, .ref r2), (3, .int a3), (4, .int a4), (5, .int v5_9)] → W p l e R s m ([.ref r0, .int a1, .ref r2, .int a3, .int a4] : List Value).toArray below meth c H_9 locs_9 0 0 Q (F0 m 31 ls []) := by
            intro N
            induction N with
            | zero => intro v5_9 H_9 locs_9 hh_9  hi_9 hm; exact absurd hm (by omega)
            | succ N L31 =>
              intro v5_9 H_9 locs_9 hh_9  hi_9 hm_9 ls hl
              refine lv_iload hx hb dX5_standsAt_31 (lv_at hl 5 rfl) ?_
              refine lv_iload hx hb dX5_standsAt_33 (lv_at hl 4 rfl) ?_
              refine lv_icmp_ge (tgt := 61) hx hb dX5_standsAt_35 (by decide) (fun c_10 => ?_) (fun c_10 => ?_)
              · skip
                have c_10' : v5_9.toInt ≥ a4.toInt := jb_ge (rfl) (rfl) c_10
                refine lv_iconst (v := 1) hx hb dX5_standsAt_61 (by decide) ?_
                rw [hQ]
                exact W.zret (v := 1) hx hb hr (jb_nz (Or.inr rfl)) (fun t ht hW => ⟨⟨1, (), rfl, ⟨(Or.inr rfl), trivial⟩, hh_9.rt (M1 := []) [] rfl ht⟩, by rw [ht]; try exact hh_9.1.1, fun q h9 hq => by rw [ht]; try exact hh_9.1.2.1 q h9 hq⟩) hh_9.1.2.2 dX5_standsAt_62
              · skip
                have c_10' : v5_9.toInt < a4.toInt := jb_ge_n (rfl) (rfl) c_10
                refine lv_aload_n hx hb dX5_standsAt_38 rfl (lv_at hl 0 rfl) ?_
                refine lv_iload_n hx hb dX5_standsAt_39 rfl (lv_at hl 1 rfl) ?_
                refine lv_iload hx hb dX5_standsAt_40 (lv_at hl 5 rfl) ?_
                refine lv_iadd hx hb dX5_standsAt_42 ?_
                refine lv_topi (fun z_11 ez_11 => ?_)
                have hz_11 : z_11.toInt = a1.toInt + v5_9.toInt := by rw [ez_11]; exact jb_iadd2 (rfl) (rfl) (by omega)
                refine j7_iald hx hb hK hh_9 hB280 1 rfl (by decide) hg_r0 (x := z_11.toInt) (rfl) (by omega) dX5_standsAt_43 (fun z_12 (hz_12 : -1 ≤ z_12.toInt) => ?_)
                refine lv_aload_n hx hb dX5_standsAt_44 rfl (lv_at hl 2 rfl) ?_
                refine lv_iload_n hx hb dX5_standsAt_45 rfl (lv_at hl 3 rfl) ?_
                refine lv_iload hx hb dX5_standsAt_46 (lv_at hl 5 rfl) ?_
                refine lv_iadd hx hb dX5_standsAt_48 ?_
                refine lv_topi (fun z_13 ez_13 => ?_)
                have hz_13 : z_13.toInt = a3.toInt + v5_9.toInt := by rw [ez_13]; exact jb_iadd2 (rfl) (rfl) (by omega)
                refine j7_iald hx hb hK hh_9 hB280 1 rfl (by decide) hg_r2 (x := z_13.toInt) (rfl) (by omega) dX5_standsAt_49 (fun z_14 (hz_14 : -1 ≤ z_14.toInt) => ?_)
                refine lv_icmp_eq (tgt := 55) hx hb dX5_standsAt_50 (by decide) (fun c_15 => ?_) (fun c_15 => ?_)
                · skip
                  have c_15' : z_12.toInt = z_14.toInt := jb_eq (rfl) (rfl) c_15
                  obtain ⟨z_16, ez_16⟩ : ∃ y : Int32, y = v5_9 + 1 := ⟨_, rfl⟩
                  refine lv_iinc (v := z_16) (lv' := [(5, .int z_16), (0, .ref r0), (1, .int a1), (2, .ref r2), (3, .int a3), (4, .int a4)]) hx hb dX5_standsAt_55 hl (k := 5) rfl (by rw [ez_16]; rfl) (by decide) rfl (fun ls hl => ?_)
                  have hz_16 : z_16.toInt = v5_9.toInt + 1 := by rw [ez_16]; exact jb_iadd2 (rfl) (by decide) (by omega)
                  refine lv_goto (tgt := 31) hx hb dX5_standsAt_58 (by decide) ?_
                  exact L31 z_16 _ _ hh_9 (by first | omega | rfl | assumption | decide | exact Or.inl rfl | exact Or.inr rfl | (simp only; omega)) (by omega) _ (lv_sub hl [1, 2, 3, 4, 5, 0] rfl)
                · skip
                  have c_15' : z_12.toInt ≠ z_14.toInt := jb_eq_n (rfl) (rfl) c_15
                  refine lv_iconst (v := 0) hx hb dX5_standsAt_53 (by decide) ?_
                  rw [hQ]
                  exact W.zret (v := 0) hx hb hr (jb_nz (Or.inl rfl)) (fun t ht hW => ⟨⟨0, (), rfl, ⟨(Or.inl rfl), trivial⟩, hh_9.rt (M1 := []) [] rfl ht⟩, by rw [ht]; try exact hh_9.1.1, fun q h9 hq => by rw [ht]; try exact hh_9.1.2.1 q h9 hq⟩) hh_9.1.2.2 dX5_standsAt_54
          exact L31 (((a4.toInt - (0 : Int32).toInt).toNat : Int) : Int).toNat.succ 0 _ _ hh (by first | omega | rfl | assumption | decide | exact Or.inl rfl | exact Or.inr rfl | (simp only; omega)) (by omega) _ (lv_sub hl [1, 2, 3, 4, 5, 0] rfl)
        · skip
          have c_8' : z_6.toInt > z_7.toInt := jb_le_n (rfl) (rfl) c_8
          refine lv_iconst (v := 0) hx hb dX5_standsAt_26 (by decide) ?_
          rw [hQ]
          exact W.zret (v := 0) hx hb hr (jb_nz (Or.inl rfl)) (fun t ht hW => ⟨⟨0, (), rfl, ⟨(Or.inl rfl), trivial⟩, hh.rt (M1 := []) [] rfl ht⟩, by rw [ht]; try exact hh.1.1, fun q h9 hq => by rw [ht]; try exact hh.1.2.1 q h9 hq⟩) hh.1.2.2 dX5_standsAt_27
end
section
def EX7_pushB : List (Nat × Nat) := [(9, 2), (286, 0)]
def EX7_pushJoinedB : List (Nat × Nat) := [(9, 2), (286, 0)]
def EX7_pushTermB : List (Nat × Nat) := [(9, 2), (286, 0)]
def EX7_isWrittenInB : List (Nat × Nat) := []
def EX7_pushQuantifiedB : List (Nat × Nat) := [(9, 2), (286, 0), (287, 0), (288, 0)]
set_option maxHeartbeats 4000000 in
set_option maxRecDepth 20000 in
theorem uX7_pushB (l : Launch) (dC : Nat → ClassId) (dI : Nat → Nat → Nat) (ca : Nat → ClassId) (base : Nat) (B : jF) (hB : jBok B) (hAp : jAp (dC, dI)) (hB9 : ∀ n G a H, B 9 n G a H ↔ jOb (dC, dI) 9 5 (F9b n G) a H) (hB286 : ∀ n G a H, B 286 n G a H ↔ jAr (dC, dI) (ca 1) (fun j z => (0 ≤ z.toInt ∨ z.toInt = -3)) n a H) (G0 : jT) (H0 : Heap) (r0 : Nat) (a1 : Int32) (a2 : Int32) : Met l yX7_push (jw yX7_push cX7_push 3 none) ({ frames := 0, cells := 0, slots := 0, locals := 0 }) (va_Pc [.ref r0, .int a1, .int a2] (fun U => U.heap = H0 ∧ jX B base G0 [] H0 ∧ jG dC dI ca base U ∧ G0 r0 = some (9, 0) ∧ jP (dC, dI) G0 H0 [] ∧ 0 ≤ a1.toInt ∧ a1.toInt ≤ 3 ∧ ((0 ≤ a2.toInt ∧ a2.toInt < 536870912) ∨ (a1.toInt = 1 ∧ a2.toInt = -1)))) (va_Qv (S := Unit) (fun u => True) (fun u t => jRt (dC, dI) B base G0 EX7_pushB H0 [] t.heap) (jA base)) 0 0 (jA base) := by
  refine Met.ofW (cc := cX7_push) (maxL := 3) (ret := none) (by decide) rfl ?_
  intro p e s m args below meth c s₁ Bd hml hv
  obtain ⟨rfl, hH0, hX, hG, hg_r0, hP0, hp0, hp1, hp2⟩ := hv
  have hK := hG.1
  have hx := Bd.exec
  have hb := Bd.bytes
  have hr := Bd.returns
  have hts := atoms_spec (ws := (jw yX7_push cX7_push 3 none)) Bd.pre
  have htw : ∀ w ∈ jWl, w.before _ s = true := fun w h => hts w (List.mem_cons_of_mem _ h)
  have hown : s.vm.findClass RX7 = some m.cls := findClass_of_methodNamed Bd.named
  have hlocks := Bd.notSynchronized
  obtain ⟨Q, hQ⟩ : ∃ Q, Q = MQ below (va_Qv (S := Unit) (fun u => True) (fun u t => jRt (dC, dI) B base G0 EX7_pushB H0 [] t.heap) (jA base)) ([.ref r0, .int a1, .int a2] : List Value).toArray s 0 0 (jA base) := ⟨_, rfl⟩
  rw [← hQ]
  have hl := lv_entry ([.ref r0, .int a1, .int a2]) (n := 3) (Nat.le_of_ble_eq_true rfl)
  rw [lg_entry_eq]
  generalize (lg_sl ([.ref r0, .int a1, .int a2]) ++ List.replicate (3 - (lg_sl ([.ref r0, .int a1, .int a2])).length) Slot.unset).toArray = ls at hl ⊢
  have hl : lv_has ls 3 [(0, .ref r0), (1, .int a1), (2, .int a2)] := hl
  generalize hR : (headSpec (jw yX7_push cX7_push 3 none) ({ frames := 0, cells := 0, slots := 0, locals := 0 })).room = R
  subst hH0
  have hh : jSt (dC, dI) B base G0 G0 EX7_pushB s.heap 0 0 [] [] [] s.heap [] := jSt.start hX hP0 jMc.nil jIs.nil
  clear hX hP0
  have hk0 : (0 : Int32).toInt = 0 := by decide
  have hk1 : (1 : Int32).toInt = 1 := by decide
  have hk2 : (2 : Int32).toInt = 2 := by decide
  have hly_9_1 := htw (u_lay RX7 TX7 1) (jWc_wsX70 _ (u_in_lay (by decide)))
  have hly_9_2 := htw (u_lay RX7 TX7 2) (jWc_wsX70 _ (u_in_lay (by decide)))
  have hlk_103 := (htw (.fieldLink RX7 103 "ProofServer$Printer" "height" "I") (jWr_31 _ (List.mem_of_getElem? (i := 7) rfl)))
  have hlk_11 := (htw (.fieldLink RX7 11 "ProofServer$Printer" "stack" "[I") (jWr_9 _ (List.mem_of_getElem? (i := 7) rfl)))
  have hrg_a1 := jb_rng a1
  have hrg_a2 := jb_rng a2
  refine lv_aload_n hx hb dX7_push_0 rfl (lv_at hl 0 rfl) ?_
  obtain ⟨v_1, hv_1, hh_2⟩ := hh.pin (C := RX7) (T := TX7) (N := 5) hB9 rfl (by decide) hg_r0 (i := 2) (by decide) rfl
  clear hh
  obtain ⟨height_3, rfl, hloheight_3, hhiheight_3⟩ := hv_1
  refine j7_read hx hb hown hK (C := RX7) (T := TX7) (N := 5) rfl hly_9_2 hlk_103 (hh_2.at 0 rfl) dX7_push_1 ?_
  refine lv_aload_n hx hb dX7_push_4 rfl (lv_at hl 0 rfl) ?_
  obtain ⟨v_4, hv_4, hh_5⟩ := hh_2.pin (C := RX7) (T := TX7) (N := 5) hB9 rfl (by decide) hg_r0 (i := 1) (by decide) rfl
  clear hh_2
  obtain ⟨stack_6, rfl, hg_stack_6⟩ := hv_4
  refine j7_read hx hb hown hK (C := RX7) (T := TX7) (N := 5) rfl hly_9_1 hlk_11 (hh_5.at 0 rfl) dX7_push_5 ?_
  refine j7_len hx hb hK hh_5 hB286 1 rfl (by decide) hg_stack_6 (by omega) dX7_push_8 (fun z_7 hz_7 => ?_)
  refine lv_icmp_ge (tgt := 36) hx hb dX7_push_9 (by decide) (fun c_8 => ?_) (fun c_8 => ?_)
  · skip
    have c_8' : height_3.toInt ≥ z_7.toInt := jb_ge (rfl) (rfl) c_8
    rw [hQ]
    exact W.vret hx hb hr (fun t ht hW => ⟨⟨(), rfl, trivial, hh_5.rt (M1 := []) [] rfl ht⟩, by rw [ht]; try exact hh_5.1.1, fun q h9 hq => by rw [ht]; try exact hh_5.1.2.1 q h9 hq⟩) hh_5.1.2.2 dX7_push_36
  · skip
    have c_8' : height_3.toInt < z_7.toInt := jb_ge_n (rfl) (rfl) c_8
    refine lv_aload_n hx hb dX7_push_12 rfl (lv_at hl 0 rfl) ?_
    refine j7_read hx hb hown hK (C := RX7) (T := TX7) (N := 5) rfl hly_9_1 hlk_11 (hh_5.at 0 rfl) dX7_push_13 ?_
    refine lv_aload_n hx hb dX7_push_16 rfl (lv_at hl 0 rfl) ?_
    refine j7_read hx hb hown hK (C := RX7) (T := TX7) (N := 5) rfl hly_9_2 hlk_103 (hh_5.at 1 rfl) dX7_push_17 ?_
    refine lv_iload_n hx hb dX7_push_20 rfl (lv_at hl 2 rfl) ?_
    refine lv_iconst (v := 2) hx hb dX7_push_21 (by decide) ?_
    refine lv_ishl hx hb dX7_push_22 ?_
    refine lv_topi (fun z_9 ez_9 => ?_)
    refine lv_iload_n hx hb dX7_push_23 rfl (lv_at hl 1 rfl) ?_
    refine lv_ior hx hb dX7_push_24 ?_
    refine lv_topi (fun z_10 ez_10 => ?_)
    have hbz_10 := jb_push ez_9 ez_10 (by omega) (by omega)
    refine j7_iast hx hb hK hh_5 hB hB286 1 rfl (by decide) (by decide) rfl rfl rfl hg_stack_6 (x := height_3.toInt) (rfl) (by omega) (by first | omega | rfl | assumption | decide | exact Or.inl rfl | exact Or.inr rfl | (simp only; omega)) dX7_push_25 (fun H_11 locs_11 hh_11 => ?_)
    clear hh_5
    refine lv_aload_n hx hb dX7_push_26 rfl (lv_at hl 0 rfl) ?_
    refine lv_dup hx hb dX7_push_27 rfl ?_
    refine j7_read hx hb hown hK (C := RX7) (T := TX7) (N := 5) rfl hly_9_2 hlk_103 (hh_11.at 1 rfl) dX7_push_28 ?_
    refine lv_iconst (v := 1) hx hb dX7_push_31 (by decide) ?_
    refine lv_iadd hx hb dX7_push_32 ?_
    refine lv_topi (fun z_12 ez_12 => ?_)
    have hz_12 : z_12.toInt = height_3.toInt + 1 := by rw [ez_12]; exact jb_iadd2 (rfl) ((by decide)) (by omega)
    refine j7_put hx hb hown hK hh_11 hB hAp hB9 (C := RX7) (T := TX7) (N := 5) rfl (by decide) hg_r0 (i := 2) (by decide) hly_9_2 rfl hlk_103 rfl (ty := .int) (v := .int z_12) (by decide +kernel) rfl rfl (⟨_, rfl, by omega, by omega⟩) rfl (L1 := [(r0, 9, 1, .ref stack_6)]) [0] rfl rfl rfl dX7_push_33 (fun H_13 locs_13 hh_13 => ?_)
    clear hh_11
    rw [hQ]
    exact W.vret hx hb hr (fun t ht hW => ⟨⟨(), rfl, trivial, hh_13.rt (M1 := []) [] rfl ht⟩, by rw [ht]; try exact hh_13.1.1, fun q h9 hq => by rw [ht]; try exact hh_13.1.2.1 q h9 hq⟩) hh_13.1.2.2 dX7_push_36
set_option maxHeartbeats 4000000 in
set_option maxRecDepth 20000 in
theorem uX7_pushJoinedB (l : Launch) (dC : Nat → ClassId) (dI : Nat → Nat → Nat) (ca : Nat → ClassId) (base : Nat) (B : jF) (hB : jBok B) (hAp : jAp (dC, dI)) (hB9 : ∀ n G a H, B 9 n G a H ↔ jOb (dC, dI) 9 5 (F9b n G) a H) (hB280 : ∀ n G a H, B 280 n G a H ↔ jAr (dC, dI) (ca 1) (fun j z => -1 ≤ z.toInt) n a H) (hB286 : ∀ n G a H, B 286 n G a H ↔ jAr (dC, dI) (ca 1) (fun j z => (0 ≤ z.toInt ∨ z.toInt = -3)) n a H) (G0 : jT) (H0 : Heap) (r0 : Nat) (r1 : Nat) (a2 : Int32) (a3 : Int32) (n1 : Nat) : Met l yX7_pushJoined (jw yX7_pushJoined cX7_pushJoined 11 none) ({ frames := 1, cells := 0, slots := 0, locals := 25 }) (va_Pc [.ref r0, .ref r1, .int a2, .int a3] (fun U => U.heap = H0 ∧ jX B base G0 [] H0 ∧ jG dC dI ca base U ∧ G0 r1 = some (280, n1) ∧ G0 r0 = some (9, 0) ∧ jP (dC, dI) G0 H0 [] ∧ 0 ≤ a2.toInt ∧ a2.toInt < n1 ∧ n1 ≤ 100000 ∧ 0 ≤ a3.toInt ∧ a3.toInt < 536870912)) (va_Qv (S := Unit) (fun u => True) (fun u t => jRt (dC, dI) B base G0 EX7_pushJoinedB H0 [] t.heap) (jA base)) 0 0 (jA base) := by
  refine Met.ofW (cc := cX7_pushJoined) (maxL := 11) (ret := none) (by decide) rfl ?_
  intro p e s m args below meth c s₁ Bd hml hv
  obtain ⟨rfl, hH0, hX, hG, hg_r1, hg_r0, hP0, hp0, hp1, hp2, hp3, hp4⟩ := hv
  have hK := hG.1
  have hx := Bd.exec
  have hb := Bd.bytes
  have hr := Bd.returns
  have hts := atoms_spec (ws := (jw yX7_pushJoined cX7_pushJoined 11 none)) Bd.pre
  have htw : ∀ w ∈ jWl, w.before _ s = true := fun w h => hts w (List.mem_cons_of_mem _ h)
  have hown : s.vm.findClass RX7 = some m.cls := findClass_of_methodNamed Bd.named
  have hlocks := Bd.notSynchronized
  obtain ⟨Q, hQ⟩ : ∃ Q, Q = MQ below (va_Qv (S := Unit) (fun u => True) (fun u t => jRt (dC, dI) B base G0 EX7_pushJoinedB H0 [] t.heap) (jA base)) ([.ref r0, .ref r1, .int a2, .int a3] : List Value).toArray s 0 0 (jA base) := ⟨_, rfl⟩
  rw [← hQ]
  have hl := lv_entry ([.ref r0, .ref r1, .int a2, .int a3]) (n := 11) (Nat.le_of_ble_eq_true rfl)
  rw [lg_entry_eq]
  generalize (lg_sl ([.ref r0, .ref r1, .int a2, .int a3]) ++ List.replicate (11 - (lg_sl ([.ref r0, .ref r1, .int a2, .int a3])).length) Slot.unset).toArray = ls at hl ⊢
  have hl : lv_has ls 11 [(0, .ref r0), (1, .ref r1), (2, .int a2), (3, .int a3)] := hl
  generalize hR : (headSpec (jw yX7_pushJoined cX7_pushJoined 11 none) ({ frames := 1, cells := 0, slots := 0, locals := 25 })).room = R
  subst hH0
  have hh : jSt (dC, dI) B base G0 G0 EX7_pushJoinedB s.heap 0 0 [] [] [] s.heap [] := jSt.start hX hP0 jMc.nil jIs.nil
  clear hX hP0
  have hkm257 : ((-257) : Int32).toInt = (-257) := by decide
  have hk0 : (0 : Int32).toInt = 0 := by decide
  have hk1 : (1 : Int32).toInt = 1 := by decide
  have hk2 : (2 : Int32).toInt = 2 := by decide
  have hk3 : (3 : Int32).toInt = 3 := by decide
  have hk15 : (15 : Int32).toInt = 15 := by decide
  have hk512 : (512 : Int32).toInt = 512 := by decide
  have hrg_a2 := jb_rng a2
  have hrg_a3 := jb_rng a3
  refine lv_iload_n hx hb dX7_pushJoined_0 rfl (lv_at hl 2 rfl) ?_
  refine lv_iconst (v := 1) hx hb dX7_pushJoined_1 (by decide) ?_
  refine lv_iadd hx hb dX7_pushJoined_2 ?_
  refine lv_topi (fun z_1 ez_1 => ?_)
  have hz_1 : z_1.toInt = a2.toInt + 1 := by rw [ez_1]; exact jb_iadd2 (rfl) ((by decide)) (by omega)
  refine lv_istore (lv' := [(4, .int z_1), (0, .ref r0), (1, .ref r1), (2, .int a2), (3, .int a3)]) hx hb dX7_pushJoined_3 hl (by decide) rfl (fun ls hl => ?_)
  refine lv_aload_n hx hb dX7_pushJoined_5 rfl (lv_at hl 2 rfl) ?_
  refine lv_iload hx hb dX7_pushJoined_6 (lv_at hl 0 rfl) ?_
  refine lv_aload_n hx hb dX7_pushJoined_8 rfl (lv_at hl 2 rfl) ?_
  refine j7_len hx hb hK hh hB280 1 rfl (by decide) hg_r1 (by omega) dX7_pushJoined_9 (fun z_2 hz_2 => ?_)
  refine va_calli (A0 := jA base) (H0 := s.heap) (va_runSN (As := [.ref r1, .int z_1, .int z_2]) (rest := []) ⟨hx, hb, hml, hown, hts⟩ (uX11_endOfB l dC dI ca base B hB hAp hB280 G0 s.heap r1 z_1 z_2 n1) ⟨va_cnB 3 hts (jgW (jWr_32 _ (List.mem_of_getElem? (i := 4) rfl))) rfl rfl rfl (hG.2.2.1 RX7 144 yX11_endOf "ProofServer" (List.mem_of_getElem? (i := 994) (by decide +kernel))) (htw (.initialized RX11) (jWr_1 _ (List.mem_of_getElem? (i := 2) rfl))) (by decide +kernel) ⟨by rw [← hR]; exact Nat.le_of_ble_eq_true rfl, by rw [← hR]; exact Nat.le_of_ble_eq_true rfl⟩, htw (.static yX11_endOf) (jWr_32 _ (List.mem_of_getElem? (i := 3) rfl)), trivial⟩ ⟨fun a U g mk q => by obtain ⟨q0, q1, q2, qK, q10, q11, q12⟩ := q; exact ⟨q0, q1, q2, jG.calling g mk a qK, q10, q11, q12⟩, fun U hU hW => ⟨rfl, hU, hh.2.1, hG.step hW hU hh.1, hg_r1, jP.nil, by first | omega | (refine ⟨?_, ?_, ?_⟩ <;> (first | omega | rfl | assumption | decide | exact Or.inl rfl | exact Or.inr rfl | (simp only; omega)))⟩⟩ rfl rfl hl.1 rfl (lv_room (Nat.le_of_ble_eq_true rfl)) dX7_pushJoined_10 ⟨Nat.zero_le _, Nat.zero_le _⟩) hh.1 (fun q _ h => h) (fun q h => h) (fun r_4 u_3 t_3 H_3 locs_3 ht_3 hvm_3 hr_4 hb_3 hz_3 hk_3 hS_3 => ?_)
  rw [ht_3] at hb_3
  obtain ⟨hb_31, hb_32, hb_33, hb_34, hb_35⟩ := hb_3
  have hh_3 : jSt (dC, dI) B base G0 G0 EX7_pushJoinedB s.heap 0 0 [] [] [] H_3 locs_3 := ((hh.call hb_31 hb_32 hb_33 hb_34 hS_3 rfl (L1 := []) [] rfl rfl (M1 := []) [] rfl rfl (I1 := []) [] rfl rfl).more hb_35)
  clear hh ht_3 hvm_3 hz_3 hk_3 hS_3 hb_31 hb_32 hb_33 hb_34 hb_35
  obtain ⟨hr_4_0, hr_4_1⟩ := hr_4
  refine lv_istore (lv' := [(5, .int r_4), (4, .int z_1), (0, .ref r0), (1, .ref r1), (2, .int a2), (3, .int a3)]) hx hb dX7_pushJoined_13 hl (by decide) rfl (fun ls hl => ?_)
  refine lv_iload hx hb dX7_pushJoined_15 (lv_at hl 0 rfl) ?_
  refine lv_aload_n hx hb dX7_pushJoined_17 rfl (lv_at hl 3 rfl) ?_
  refine j7_len hx hb hK hh_3 hB280 1 rfl (by decide) hg_r1 (by omega) dX7_pushJoined_18 (fun z_5 hz_5 => ?_)
  refine lv_icmp_lt (tgt := 23) hx hb dX7_pushJoined_19 (by decide) (fun c_6 => ?_) (fun c_6 => ?_)
  · skip
    have c_6' : r_4.toInt < z_5.toInt := jb_lt (rfl) (rfl) c_6
    first | (have hr_4_1q := hr_4_1.resolve_left (by omega); clear hr_4_1) | (have hr_4_1q := hr_4_1.resolve_right (by omega); clear hr_4_1) | skip
    refine lv_aload_n hx hb dX7_pushJoined_23 rfl (lv_at hl 3 rfl) ?_
    refine lv_iload_n hx hb dX7_pushJoined_24 rfl (lv_at hl 4 rfl) ?_
    refine j7_iald hx hb hK hh_3 hB280 1 rfl (by decide) hg_r1 (x := a2.toInt) (rfl) (by omega) dX7_pushJoined_25 (fun z_7 (hz_7 : -1 ≤ z_7.toInt) => ?_)
    refine lv_bipush (v := 15) hx hb dX7_pushJoined_26 (by decide) ?_
    refine lv_iand hx hb dX7_pushJoined_28 ?_
    refine lv_topi (fun z_8 ez_8 => ?_)
    have hz_8 : 0 ≤ z_8.toInt ∧ z_8.toInt ≤ 15 := by rw [ez_8]; exact jb_and z_7 (m := 15) (k := 4) (by decide) (by decide)
    refine lv_istore (lv' := [(6, .int z_8), (5, .int r_4), (4, .int z_1), (0, .ref r0), (1, .ref r1), (2, .int a2), (3, .int a3)]) hx hb dX7_pushJoined_29 hl (by decide) rfl (fun ls hl => ?_)
    refine lv_aload_n hx hb dX7_pushJoined_31 rfl (lv_at hl 4 rfl) ?_
    refine lv_iload hx hb dX7_pushJoined_32 (lv_at hl 2 rfl) ?_
    refine j7_iald hx hb hK hh_3 hB280 1 rfl (by decide) hg_r1 (x := z_1.toInt) (rfl) (by omega) dX7_pushJoined_34 (fun z_9 (hz_9 : -1 ≤ z_9.toInt) => ?_)
    refine lv_bipush (v := 15) hx hb dX7_pushJoined_35 (by decide) ?_
    refine lv_iand hx hb dX7_pushJoined_37 ?_
    refine lv_topi (fun z_10 ez_10 => ?_)
    have hz_10 : 0 ≤ z_10.toInt ∧ z_10.toInt ≤ 15 := by rw [ez_10]; exact jb_and z_9 (m := 15) (k := 4) (by decide) (by decide)
    refine lv_istore (lv' := [(7, .int z_10), (6, .int z_8), (5, .int r_4), (4, .int z_1), (0, .ref r0), (1, .ref r1), (2, .int a2), (3, .int a3)]) hx hb dX7_pushJoined_38 hl (by decide) rfl (fun ls hl => ?_)
    refine lv_aload_n hx hb dX7_pushJoined_40 rfl (lv_at hl 5 rfl) ?_
    refine lv_iload hx hb dX7_pushJoined_41 (lv_at hl 2 rfl) ?_
    refine j7_iald hx hb hK hh_3 hB280 1 rfl (by decide) hg_r1 (x := r_4.toInt) (rfl) (by omega) dX7_pushJoined_43 (fun z_11 (hz_11 : -1 ≤ z_11.toInt) => ?_)
    refine lv_bipush (v := 15) hx hb dX7_pushJoined_44 (by decide) ?_
    refine lv_iand hx hb dX7_pushJoined_46 ?_
    refine lv_topi (fun z_12 ez_12 => ?_)
    have hz_12 : 0 ≤ z_12.toInt ∧ z_12.toInt ≤ 15 := by rw [ez_12]; exact jb_and z_11 (m := 15) (k := 4) (by decide) (by decide)
    refine lv_istore (lv' := [(8, .int z_12), (7, .int z_10), (6, .int z_8), (5, .int r_4), (4, .int z_1), (0, .ref r0), (1, .ref r1), (2, .int a2), (3, .int a3)]) hx hb dX7_pushJoined_47 hl (by decide) rfl (fun ls hl => ?_)
    refine lv_iload hx hb dX7_pushJoined_49 (lv_at hl 1 rfl) ?_
    refine lv_iconst (v := 1) hx hb dX7_pushJoined_51 (by decide) ?_
    have C84 : ∀ (w0_13 : Int32) (H_13 : Heap) (locs_13 : List Loc), jSt (dC, dI) B base G0 G0 EX7_pushJoinedB s.heap 0 0 [] [] [] H_13 locs_13 → (w0_13 = 0 ∨ w0_13 = 1) → (True) → ∀ ls : Array Slot, lv_has ls 11 [(0, .ref r0), (1, .ref r1), (2, .int a2), (3, .int a3), (4, .int z_1), (5, .int r_4), (6, .int z_8), (7, .int z_10), (8, .int z_12)] → W p l e R s m ([.ref r0, .ref r1, .int a2, .int a3] : List Value).toArray below meth c H_13 locs_13 0 0 Q (F0 m 84 ls [.int w0_13]) := by
      intro w0_13 H_13 locs_13 hh_13 hb_w0_13 hi_13 ls hl
      have hb_w0_13' := jb_01 hb_w0_13
      try clear hr_4_1
      refine lv_istore (lv' := [(9, .int w0_13), (0, .ref r0), (1, .ref r1), (2, .int a2), (3, .int a3), (4, .int z_1), (5, .int r_4), (6, .int z_8), (7, .int z_10), (8, .int z_12)]) hx hb dX7_pushJoined_84 hl (by decide) rfl (fun ls hl => ?_)
      refine lv_iload hx hb dX7_pushJoined_86 (lv_at hl 9 rfl) ?_
      refine lv_iconst (v := 1) hx hb dX7_pushJoined_88 (by decide) ?_
      have C115 : ∀ (w0_14 : Int32) (H_14 : Heap) (locs_14 : List Loc), jSt (dC, dI) B base G0 G0 EX7_pushJoinedB s.heap 0 0 [] [] [] H_14 locs_14 → (w0_14 = 0 ∨ w0_14 = 1) → (True) → ∀ ls : Array Slot, lv_has ls 11 [(0, .ref r0), (1, .ref r1), (2, .int a2), (3, .int a3), (4, .int z_1), (5, .int r_4), (6, .int z_8), (7, .int z_10), (8, .int z_12), (9, .int w0_13)] → W p l e R s m ([.ref r0, .ref r1, .int a2, .int a3] : List Value).toArray below meth c H_14 locs_14 0 0 Q (F0 m 115 ls [.int w0_14]) := by
        intro w0_14 H_14 locs_14 hh_14 hb_w0_14 hi_14 ls hl
        have hb_w0_14' := jb_01 hb_w0_14
        refine lv_istore (lv' := [(10, .int w0_14), (0, .ref r0), (1, .ref r1), (2, .int a2), (3, .int a3), (4, .int z_1), (5, .int r_4), (6, .int z_8), (7, .int z_10), (8, .int z_12), (9, .int w0_13)]) hx hb dX7_pushJoined_115 hl (by decide) rfl (fun ls hl => ?_)
        refine lv_aload_n hx hb dX7_pushJoined_117 rfl (lv_at hl 1 rfl) ?_
        refine lv_iconst (v := 2) hx hb dX7_pushJoined_118 (by decide) ?_
        refine lv_iload hx hb dX7_pushJoined_119 (lv_at hl 6 rfl) ?_
        refine lv_iload_n hx hb dX7_pushJoined_121 rfl (lv_at hl 4 rfl) ?_
        refine lv_ior hx hb dX7_pushJoined_122 ?_
        refine lv_topi (fun z_15 ez_15 => ?_)
        have hbz_15 := jb_or29 ez_15 (by omega) (by omega) (by omega) (by omega)
        refine lv_iload hx hb dX7_pushJoined_123 (lv_at hl 0 rfl) ?_
        have C135 : ∀ (w0_16 : Int32) (H_16 : Heap) (locs_16 : List Loc), jSt (dC, dI) B base G0 G0 EX7_pushJoinedB s.heap 0 0 [] [] [] H_16 locs_16 → (w0_16.toInt = 0 ∨ w0_16.toInt = 512) → ∀ ls : Array Slot, lv_has ls 11 [(0, .ref r0), (1, .ref r1), (2, .int a2), (3, .int a3), (4, .int z_1), (5, .int r_4), (6, .int z_8), (7, .int z_10), (8, .int z_12), (9, .int w0_13), (10, .int w0_14)] → W p l e R s m ([.ref r0, .ref r1, .int a2, .int a3] : List Value).toArray below meth c H_16 locs_16 0 0 Q (F0 m 135 ls [.int w0_16, .int z_15, .int 2, .ref r0]) := by
          intro w0_16 H_16 locs_16 hh_16  hi_16 ls hl
          refine lv_ior hx hb dX7_pushJoined_135 ?_
          refine lv_topi (fun z_17 ez_17 => ?_)
          have hbz_17 := jb_or29 ez_17 (by omega) (by omega) (by omega) (by omega)
          refine va_callv (A0 := jA base) (H0 := s.heap) (va_runV (As := [.int 2, .int z_17]) (rest := []) ⟨hx, hb, hml, hown, hts⟩ (uX7_pushB l dC dI ca base B hB hAp hB9 hB286 G0 H_16 r0 2 z_17) (cwV 2 hts (jgV (jWr_31 _ (List.mem_of_getElem? (i := 9) rfl)) (jWr_31 _ (List.mem_of_getElem? (i := 10) rfl)) (jWr_31 _ (List.mem_of_getElem? (i := 11) rfl)) (jWr_2 _ (List.mem_of_getElem? (i := 8) rfl)) (jWr_31 _ (List.mem_of_getElem? (i := 12) rfl))) rfl rfl rfl (by decide +kernel) ⟨by rw [← hR]; exact Nat.le_of_ble_eq_true rfl, by rw [← hR]; exact Nat.le_of_ble_eq_true rfl⟩) ⟨fun a U g mk q => by obtain ⟨q0, q1, q2, qK, q10, q11, q12⟩ := q; exact ⟨q0, q1, q2, jG.calling g mk a qK, q10, q11, q12⟩, hh_16.recv (C := RX7) (T := TX7) (N := 5) hB9 rfl (by decide) hg_r0 hK, fun U hU hW => ⟨rfl, hU, hh_16.2.1, hG.step hW hU hh_16.1, hg_r0, jP.nil, by first | omega | (refine ⟨?_, ?_, ?_⟩ <;> (first | omega | rfl | assumption | decide | exact Or.inl rfl | exact Or.inr rfl | (simp only; omega)))⟩⟩ rfl rfl hl.1 rfl (lv_room (Nat.le_of_ble_eq_true rfl)) dX7_pushJoined_136 ⟨Nat.zero_le _, Nat.zero_le _⟩) hh_16.1 (fun q _ h => h) (fun q h => h) (fun u_18 t_18 H_18 locs_18 ht_18 hvm_18 hr_19 hb_18 hz_18 hk_18 hS_18 => ?_)
          rw [ht_18] at hb_18
          obtain ⟨hb_181, hb_182, hb_183, hb_184, hb_185⟩ := hb_18
          have hh_18 : jSt (dC, dI) B base G0 G0 EX7_pushJoinedB s.heap 0 0 [] [] [] H_18 locs_18 := ((hh_16.call hb_181 hb_182 hb_183 hb_184 hS_18 rfl (L1 := []) [] rfl rfl (M1 := []) [] rfl rfl (I1 := []) [] rfl rfl).more hb_185)
          clear hh_16 ht_18 hvm_18 hz_18 hk_18 hS_18 hb_181 hb_182 hb_183 hb_184 hb_185
          refine lv_aload_n hx hb dX7_pushJoined_139 rfl (lv_at hl 0 rfl) ?_
          refine lv_iconst (v := 0) hx hb dX7_pushJoined_140 (by decide) ?_
          refine lv_iload hx hb dX7_pushJoined_141 (lv_at hl 6 rfl) ?_
          refine va_callv (A0 := jA base) (H0 := s.heap) (va_runV (As := [.int 0, .int z_8]) (rest := []) ⟨hx, hb, hml, hown, hts⟩ (uX7_pushB l dC dI ca base B hB hAp hB9 hB286 G0 H_18 r0 0 z_8) (cwV 2 hts (jgV (jWr_31 _ (List.mem_of_getElem? (i := 9) rfl)) (jWr_31 _ (List.mem_of_getElem? (i := 10) rfl)) (jWr_31 _ (List.mem_of_getElem? (i := 11) rfl)) (jWr_2 _ (List.mem_of_getElem? (i := 8) rfl)) (jWr_31 _ (List.mem_of_getElem? (i := 12) rfl))) rfl rfl rfl (by decide +kernel) ⟨by rw [← hR]; exact Nat.le_of_ble_eq_true rfl, by rw [← hR]; exact Nat.le_of_ble_eq_true rfl⟩) ⟨fun a U g mk q => by obtain ⟨q0, q1, q2, qK, q10, q11, q12⟩ := q; exact ⟨q0, q1, q2, jG.calling g mk a qK, q10, q11, q12⟩, hh_18.recv (C := RX7) (T := TX7) (N := 5) hB9 rfl (by decide) hg_r0 hK, fun U hU hW => ⟨rfl, hU, hh_18.2.1, hG.step hW hU hh_18.1, hg_r0, jP.nil, by first | omega | (refine ⟨?_, ?_, ?_⟩ <;> (first | omega | rfl | assumption | decide | exact Or.inl rfl | exact Or.inr rfl | (simp only; omega)))⟩⟩ rfl rfl hl.1 rfl (lv_room (Nat.le_of_ble_eq_true rfl)) dX7_pushJoined_143 ⟨Nat.zero_le _, Nat.zero_le _⟩) hh_18.1 (fun q _ h => h) (fun q h => h) (fun u_20 t_20 H_20 locs_20 ht_20 hvm_20 hr_21 hb_20 hz_20 hk_20 hS_20 => ?_)
          rw [ht_20] at hb_20
          obtain ⟨hb_201, hb_202, hb_203, hb_204, hb_205⟩ := hb_20
          have hh_20 : jSt (dC, dI) B base G0 G0 EX7_pushJoinedB s.heap 0 0 [] [] [] H_20 locs_20 := ((hh_18.call hb_201 hb_202 hb_203 hb_204 hS_20 rfl (L1 := []) [] rfl rfl (M1 := []) [] rfl rfl (I1 := []) [] rfl rfl).more hb_205)
          clear hh_18 ht_20 hvm_20 hz_20 hk_20 hS_20 hb_201 hb_202 hb_203 hb_204 hb_205
          refine lv_aload_n hx hb dX7_pushJoined_146 rfl (lv_at hl 0 rfl) ?_
          refine lv_iconst (v := 2) hx hb dX7_pushJoined_147 (by decide) ?_
          refine lv_iload hx hb dX7_pushJoined_148 (lv_at hl 4 rfl) ?_
          refine lv_iload_n hx hb dX7_pushJoined_150 rfl (lv_at hl 3 rfl) ?_
          refine lv_sipush (v := (-257)) hx hb dX7_pushJoined_151 (by decide) ?_
          refine lv_iand hx hb dX7_pushJoined_154 ?_
          refine lv_topi (fun z_22 ez_22 => ?_)
          have hbz_22 := jb_and0 ez_22 (by omega)
          refine lv_ior hx hb dX7_pushJoined_155 ?_
          refine lv_topi (fun z_23 ez_23 => ?_)
          have hbz_23 := jb_or29 ez_23 (by omega) (by omega) (by omega) (by omega)
          refine lv_iload hx hb dX7_pushJoined_156 (lv_at hl 9 rfl) ?_
          have C168 : ∀ (w0_24 : Int32) (H_24 : Heap) (locs_24 : List Loc), jSt (dC, dI) B base G0 G0 EX7_pushJoinedB s.heap 0 0 [] [] [] H_24 locs_24 → (w0_24.toInt = 0 ∨ w0_24.toInt = 512) → ∀ ls : Array Slot, lv_has ls 11 [(0, .ref r0), (1, .ref r1), (2, .int a2), (3, .int a3), (4, .int z_1), (5, .int r_4), (6, .int z_8), (7, .int z_10), (8, .int z_12), (9, .int w0_13), (10, .int w0_14)] → W p l e R s m ([.ref r0, .ref r1, .int a2, .int a3] : List Value).toArray below meth c H_24 locs_24 0 0 Q (F0 m 168 ls [.int w0_24, .int z_23, .int 2, .ref r0]) := by
            intro w0_24 H_24 locs_24 hh_24  hi_24 ls hl
            refine lv_ior hx hb dX7_pushJoined_168 ?_
            refine lv_topi (fun z_25 ez_25 => ?_)
            have hbz_25 := jb_or29 ez_25 (by omega) (by omega) (by omega) (by omega)
            refine va_callv (A0 := jA base) (H0 := s.heap) (va_runV (As := [.int 2, .int z_25]) (rest := []) ⟨hx, hb, hml, hown, hts⟩ (uX7_pushB l dC dI ca base B hB hAp hB9 hB286 G0 H_24 r0 2 z_25) (cwV 2 hts (jgV (jWr_31 _ (List.mem_of_getElem? (i := 9) rfl)) (jWr_31 _ (List.mem_of_getElem? (i := 10) rfl)) (jWr_31 _ (List.mem_of_getElem? (i := 11) rfl)) (jWr_2 _ (List.mem_of_getElem? (i := 8) rfl)) (jWr_31 _ (List.mem_of_getElem? (i := 12) rfl))) rfl rfl rfl (by decide +kernel) ⟨by rw [← hR]; exact Nat.le_of_ble_eq_true rfl, by rw [← hR]; exact Nat.le_of_ble_eq_true rfl⟩) ⟨fun a U g mk q => by obtain ⟨q0, q1, q2, qK, q10, q11, q12⟩ := q; exact ⟨q0, q1, q2, jG.calling g mk a qK, q10, q11, q12⟩, hh_24.recv (C := RX7) (T := TX7) (N := 5) hB9 rfl (by decide) hg_r0 hK, fun U hU hW => ⟨rfl, hU, hh_24.2.1, hG.step hW hU hh_24.1, hg_r0, jP.nil, by first | omega | (refine ⟨?_, ?_, ?_⟩ <;> (first | omega | rfl | assumption | decide | exact Or.inl rfl | exact Or.inr rfl | (simp only; omega)))⟩⟩ rfl rfl hl.1 rfl (lv_room (Nat.le_of_ble_eq_true rfl)) dX7_pushJoined_169 ⟨Nat.zero_le _, Nat.zero_le _⟩) hh_24.1 (fun q _ h => h) (fun q h => h) (fun u_26 t_26 H_26 locs_26 ht_26 hvm_26 hr_27 hb_26 hz_26 hk_26 hS_26 => ?_)
            rw [ht_26] at hb_26
            obtain ⟨hb_261, hb_262, hb_263, hb_264, hb_265⟩ := hb_26
            have hh_26 : jSt (dC, dI) B base G0 G0 EX7_pushJoinedB s.heap 0 0 [] [] [] H_26 locs_26 := ((hh_24.call hb_261 hb_262 hb_263 hb_264 hS_26 rfl (L1 := []) [] rfl rfl (M1 := []) [] rfl rfl (I1 := []) [] rfl rfl).more hb_265)
            clear hh_24 ht_26 hvm_26 hz_26 hk_26 hS_26 hb_261 hb_262 hb_263 hb_264 hb_265
            rw [hQ]
            exact W.vret hx hb hr (fun t ht hW => ⟨⟨(), rfl, trivial, hh_26.rt (M1 := []) [] rfl ht⟩, by rw [ht]; try exact hh_26.1.1, fun q h9 hq => by rw [ht]; try exact hh_26.1.2.1 q h9 hq⟩) hh_26.1.2.2 dX7_pushJoined_172
          refine lv_if_eq (tgt := 167) hx hb dX7_pushJoined_158 (by decide) (fun c_28 => ?_) (fun c_28 => ?_)
          · skip
            have c_28' : w0_13.toInt = 0 := jb_eq (rfl) ((by decide)) c_28
            refine lv_iconst (v := 0) hx hb dX7_pushJoined_167 (by decide) ?_
            exact C168 0 _ _ hh_20 (by first | omega | rfl | assumption | decide | exact Or.inl rfl | exact Or.inr rfl | (simp only; omega)) _ (lv_sub hl [0, 1, 2, 3, 4, 5, 6, 7, 8, 9, 10] rfl)
          · skip
            have c_28' : w0_13.toInt ≠ 0 := jb_eq_n (rfl) ((by decide)) c_28
            refine lv_sipush (v := 512) hx hb dX7_pushJoined_161 (by decide) ?_
            refine lv_goto (tgt := 168) hx hb dX7_pushJoined_164 (by decide) ?_
            exact C168 512 _ _ hh_20 (by first | omega | rfl | assumption | decide | exact Or.inl rfl | exact Or.inr rfl | (simp only; omega)) _ (lv_sub hl [0, 1, 2, 3, 4, 5, 6, 7, 8, 9, 10] rfl)
        refine lv_if_eq (tgt := 134) hx hb dX7_pushJoined_125 (by decide) (fun c_29 => ?_) (fun c_29 => ?_)
        · skip
          have c_29' : w0_14.toInt = 0 := jb_eq (rfl) ((by decide)) c_29
          refine lv_iconst (v := 0) hx hb dX7_pushJoined_134 (by decide) ?_
          exact C135 0 _ _ hh_14 (by first | omega | rfl | assumption | decide | exact Or.inl rfl | exact Or.inr rfl | (simp only; omega)) _ (lv_sub hl [1, 2, 3, 4, 5, 6, 7, 8, 9, 10, 0] rfl)
        · skip
          have c_29' : w0_14.toInt ≠ 0 := jb_eq_n (rfl) ((by decide)) c_29
          refine lv_sipush (v := 512) hx hb dX7_pushJoined_128 (by decide) ?_
          refine lv_goto (tgt := 135) hx hb dX7_pushJoined_131 (by decide) ?_
          exact C135 512 _ _ hh_14 (by first | omega | rfl | assumption | decide | exact Or.inl rfl | exact Or.inr rfl | (simp only; omega)) _ (lv_sub hl [1, 2, 3, 4, 5, 6, 7, 8, 9, 10, 0] rfl)
      have C98 : ∀ (H_30 : Heap) (locs_30 : List Loc), jSt (dC, dI) B base G0 G0 EX7_pushJoinedB s.heap 0 0 [] [] [] H_30 locs_30 → (True) → ∀ ls : Array Slot, lv_has ls 11 [(0, .ref r0), (1, .ref r1), (2, .int a2), (3, .int a3), (4, .int z_1), (5, .int r_4), (6, .int z_8), (7, .int z_10), (8, .int z_12), (9, .int w0_13)] → W p l e R s m ([.ref r0, .ref r1, .int a2, .int a3] : List Value).toArray below meth c H_30 locs_30 0 0 Q (F0 m 98 ls []) := by
        intro  H_30 locs_30 hh_30  hi_30 ls hl
        refine lv_iload hx hb dX7_pushJoined_98 (lv_at hl 8 rfl) ?_
        refine lv_iconst (v := 3) hx hb dX7_pushJoined_100 (by decide) ?_
        refine lv_icmp_ne (tgt := 114) hx hb dX7_pushJoined_101 (by decide) (fun c_31 => ?_) (fun c_31 => ?_)
        · skip
          have c_31' : z_12.toInt ≠ 3 := jb_ne (rfl) ((by decide)) c_31
          refine lv_iconst (v := 0) hx hb dX7_pushJoined_114 (by decide) ?_
          exact C115 0 _ _ hh_30 (Or.inl rfl) (trivial) _ (lv_sub hl [0, 1, 2, 3, 4, 5, 6, 7, 8, 9] rfl)
        · skip
          have c_31' : z_12.toInt = 3 := jb_ne_n (rfl) ((by decide)) c_31
          refine lv_iload hx hb dX7_pushJoined_104 (lv_at hl 6 rfl) ?_
          refine lv_iconst (v := 2) hx hb dX7_pushJoined_106 (by decide) ?_
          refine lv_icmp_ne (tgt := 114) hx hb dX7_pushJoined_107 (by decide) (fun c_32 => ?_) (fun c_32 => ?_)
          · skip
            have c_32' : z_8.toInt ≠ 2 := jb_ne (rfl) ((by decide)) c_32
            refine lv_iconst (v := 0) hx hb dX7_pushJoined_114 (by decide) ?_
            exact C115 0 _ _ hh_30 (Or.inl rfl) (trivial) _ (lv_sub hl [0, 1, 2, 3, 4, 5, 6, 7, 8, 9] rfl)
          · skip
            have c_32' : z_8.toInt = 2 := jb_ne_n (rfl) ((by decide)) c_32
            refine lv_iconst (v := 1) hx hb dX7_pushJoined_110 (by decide) ?_
            refine lv_goto (tgt := 115) hx hb dX7_pushJoined_111 (by decide) ?_
            exact C115 1 _ _ hh_30 (Or.inr rfl) (trivial) _ (lv_sub hl [0, 1, 2, 3, 4, 5, 6, 7, 8, 9] rfl)
      refine lv_icmp_ne (tgt := 98) hx hb dX7_pushJoined_89 (by decide) (fun c_33 => ?_) (fun c_33 => ?_)
      · skip
        have c_33' : z_12.toInt ≠ 1 := jb_ne (rfl) ((by decide)) c_33
        exact C98  _ _ hh_13 (trivial) _ (lv_sub hl [1, 2, 3, 4, 5, 6, 7, 8, 9, 0] rfl)
      · skip
        have c_33' : z_12.toInt = 1 := jb_ne_n (rfl) ((by decide)) c_33
        refine lv_iload hx hb dX7_pushJoined_92 (lv_at hl 7 rfl) ?_
        refine lv_iconst (v := 1) hx hb dX7_pushJoined_94 (by decide) ?_
        refine lv_icmp_ne (tgt := 110) hx hb dX7_pushJoined_95 (by decide) (fun c_34 => ?_) (fun c_34 => ?_)
        · skip
          have c_34' : z_8.toInt ≠ 1 := jb_ne (rfl) ((by decide)) c_34
          refine lv_iconst (v := 1) hx hb dX7_pushJoined_110 (by decide) ?_
          refine lv_goto (tgt := 115) hx hb dX7_pushJoined_111 (by decide) ?_
          exact C115 1 _ _ hh_13 (Or.inr rfl) (trivial) _ (lv_sub hl [1, 2, 3, 4, 5, 6, 7, 8, 9, 0] rfl)
        · skip
          have c_34' : z_8.toInt = 1 := jb_ne_n (rfl) ((by decide)) c_34
          exact C98  _ _ hh_13 (trivial) _ (lv_sub hl [1, 2, 3, 4, 5, 6, 7, 8, 9, 0] rfl)
    refine lv_icmp_eq (tgt := 79) hx hb dX7_pushJoined_52 (by decide) (fun c_35 => ?_) (fun c_35 => ?_)
    · skip
      have c_35' : z_10.toInt = 1 := jb_eq (rfl) ((by decide)) c_35
      refine lv_iconst (v := 1) hx hb dX7_pushJoined_79 (by decide) ?_
      refine lv_goto (tgt := 84) hx hb dX7_pushJoined_80 (by decide) ?_
      exact C84 1 _ _ hh_3 (Or.inr rfl) (trivial) _ (lv_sub hl [5, 6, 7, 8, 4, 3, 2, 1, 0] rfl)
    · skip
      have c_35' : z_10.toInt ≠ 1 := jb_eq_n (rfl) ((by decide)) c_35
      refine lv_iload hx hb dX7_pushJoined_55 (lv_at hl 1 rfl) ?_
      refine lv_iconst (v := 3) hx hb dX7_pushJoined_57 (by decide) ?_
      have C67 : ∀ (H_36 : Heap) (locs_36 : List Loc), jSt (dC, dI) B base G0 G0 EX7_pushJoinedB s.heap 0 0 [] [] [] H_36 locs_36 → (True) → ∀ ls : Array Slot, lv_has ls 11 [(0, .ref r0), (1, .ref r1), (2, .int a2), (3, .int a3), (4, .int z_1), (5, .int r_4), (6, .int z_8), (7, .int z_10), (8, .int z_12)] → W p l e R s m ([.ref r0, .ref r1, .int a2, .int a3] : List Value).toArray below meth c H_36 locs_36 0 0 Q (F0 m 67 ls []) := by
        intro  H_36 locs_36 hh_36  hi_36 ls hl
        try clear hr_4_1
        refine lv_iload hx hb dX7_pushJoined_67 (lv_at hl 7 rfl) ?_
        refine lv_iconst (v := 2) hx hb dX7_pushJoined_69 (by decide) ?_
        refine lv_icmp_ne (tgt := 83) hx hb dX7_pushJoined_70 (by decide) (fun c_37 => ?_) (fun c_37 => ?_)
        · skip
          have c_37' : z_10.toInt ≠ 2 := jb_ne (rfl) ((by decide)) c_37
          refine lv_iconst (v := 0) hx hb dX7_pushJoined_83 (by decide) ?_
          exact C84 0 _ _ hh_36 (Or.inl rfl) (trivial) _ (lv_sub hl [0, 1, 2, 3, 4, 5, 6, 7, 8] rfl)
        · skip
          have c_37' : z_10.toInt = 2 := jb_ne_n (rfl) ((by decide)) c_37
          refine lv_iload hx hb dX7_pushJoined_73 (lv_at hl 6 rfl) ?_
          refine lv_iconst (v := 2) hx hb dX7_pushJoined_75 (by decide) ?_
          refine lv_icmp_ne (tgt := 83) hx hb dX7_pushJoined_76 (by decide) (fun c_38 => ?_) (fun c_38 => ?_)
          · skip
            have c_38' : z_8.toInt ≠ 2 := jb_ne (rfl) ((by decide)) c_38
            refine lv_iconst (v := 0) hx hb dX7_pushJoined_83 (by decide) ?_
            exact C84 0 _ _ hh_36 (Or.inl rfl) (trivial) _ (lv_sub hl [0, 1, 2, 3, 4, 5, 6, 7, 8] rfl)
          · skip
            have c_38' : z_8.toInt = 2 := jb_ne_n (rfl) ((by decide)) c_38
            refine lv_iconst (v := 1) hx hb dX7_pushJoined_79 (by decide) ?_
            refine lv_goto (tgt := 84) hx hb dX7_pushJoined_80 (by decide) ?_
            exact C84 1 _ _ hh_36 (Or.inr rfl) (trivial) _ (lv_sub hl [0, 1, 2, 3, 4, 5, 6, 7, 8] rfl)
      refine lv_icmp_ne (tgt := 67) hx hb dX7_pushJoined_58 (by decide) (fun c_39 => ?_) (fun c_39 => ?_)
      · skip
        have c_39' : z_10.toInt ≠ 3 := jb_ne (rfl) ((by decide)) c_39
        exact C67  _ _ hh_3 (trivial) _ (lv_sub hl [5, 6, 7, 8, 4, 3, 2, 1, 0] rfl)
      · skip
        have c_39' : z_10.toInt = 3 := jb_ne_n (rfl) ((by decide)) c_39
        refine lv_iload hx hb dX7_pushJoined_61 (lv_at hl 2 rfl) ?_
        refine lv_iconst (v := 1) hx hb dX7_pushJoined_63 (by decide) ?_
        refine lv_icmp_ne (tgt := 79) hx hb dX7_pushJoined_64 (by decide) (fun c_40 => ?_) (fun c_40 => ?_)
        · skip
          have c_40' : z_8.toInt ≠ 1 := jb_ne (rfl) ((by decide)) c_40
          refine lv_iconst (v := 1) hx hb dX7_pushJoined_79 (by decide) ?_
          refine lv_goto (tgt := 84) hx hb dX7_pushJoined_80 (by decide) ?_
          exact C84 1 _ _ hh_3 (Or.inr rfl) (trivial) _ (lv_sub hl [5, 6, 7, 8, 4, 3, 2, 1, 0] rfl)
        · skip
          have c_40' : z_8.toInt = 1 := jb_ne_n (rfl) ((by decide)) c_40
          exact C67  _ _ hh_3 (trivial) _ (lv_sub hl [5, 6, 7, 8, 4, 3, 2, 1, 0] rfl)
  · skip
    have c_6' : r_4.toInt ≥ z_5.toInt := jb_lt_n (rfl) (rfl) c_6
    first | (have hr_4_1q := hr_4_1.resolve_left (by omega); clear hr_4_1) | (have hr_4_1q := hr_4_1.resolve_right (by omega); clear hr_4_1) | skip
    rw [hQ]
    exact W.vret hx hb hr (fun t ht hW => ⟨⟨(), rfl, trivial, hh_3.rt (M1 := []) [] rfl ht⟩, by rw [ht]; try exact hh_3.1.1, fun q h9 hq => by rw [ht]; try exact hh_3.1.2.1 q h9 hq⟩) hh_3.1.2.2 dX7_pushJoined_22
set_option maxHeartbeats 4000000 in
set_option maxRecDepth 20000 in
theorem uX7_pushTermB (l : Launch) (dC : Nat → ClassId) (dI : Nat → Nat → Nat) (ca : Nat → ClassId) (base : Nat) (B : jF) (hB : jBok B) (hAp : jAp (dC, dI)) (hB9 : ∀ n G a H, B 9 n G a H ↔ jOb (dC, dI) 9 5 (F9b n G) a H) (hB280 : ∀ n G a H, B 280 n G a H ↔ jAr (dC, dI) (ca 1) (fun j z => -1 ≤ z.toInt) n a H) (hB286 : ∀ n G a H, B 286 n G a H ↔ jAr (dC, dI) (ca 1) (fun j z => (0 ≤ z.toInt ∨ z.toInt = -3)) n a H) (hB287 : ∀ n G a H, B 287 n G a H ↔ jAr (dC, dI) (ca 1) (fun j z => 0 ≤ z.toInt ∧ z.toInt ≤ 65535) n a H) (hB288 : ∀ n G a H, B 288 n G a H ↔ jAr (dC, dI) (ca 1) (fun j z => 0 ≤ z.toInt ∧ z.toInt ≤ 160) n a H) (G0 : jT) (H0 : Heap) (r0 : Nat) (r1 : Nat) (a2 : Int32) (n1 : Nat) : Met l yX7_pushTerm (jw yX7_pushTerm cX7_pushTerm 8 none) ({ frames := 1, cells := 0, slots := 0, locals := 25 }) (va_Pc [.ref r0, .ref r1, .int a2] (fun U => U.heap = H0 ∧ jX B base G0 [] H0 ∧ jG dC dI ca base U ∧ G0 r1 = some (280, n1) ∧ G0 r0 = some (9, 0) ∧ jP (dC, dI) G0 H0 [] ∧ 0 ≤ a2.toInt ∧ a2.toInt < n1 ∧ n1 ≤ 100000)) (va_Qv (S := Unit) (fun u => True) (fun u t => jRt (dC, dI) B base G0 EX7_pushTermB H0 [] t.heap) (jA base)) 0 0 (jA base) := by
  refine Met.ofW (cc := cX7_pushTerm) (maxL := 8) (ret := none) (by decide) rfl ?_
  intro p e s m args below meth c s₁ Bd hml hv
  obtain ⟨rfl, hH0, hX, hG, hg_r1, hg_r0, hP0, hp0, hp1, hp2⟩ := hv
  have hK := hG.1
  have hx := Bd.exec
  have hb := Bd.bytes
  have hr := Bd.returns
  have hts := atoms_spec (ws := (jw yX7_pushTerm cX7_pushTerm 8 none)) Bd.pre
  have htw : ∀ w ∈ jWl, w.before _ s = true := fun w h => hts w (List.mem_cons_of_mem _ h)
  have hown : s.vm.findClass RX7 = some m.cls := findClass_of_methodNamed Bd.named
  have hlocks := Bd.notSynchronized
  obtain ⟨Q, hQ⟩ : ∃ Q, Q = MQ below (va_Qv (S := Unit) (fun u => True) (fun u t => jRt (dC, dI) B base G0 EX7_pushTermB H0 [] t.heap) (jA base)) ([.ref r0, .ref r1, .int a2] : List Value).toArray s 0 0 (jA base) := ⟨_, rfl⟩
  rw [← hQ]
  have hl := lv_entry ([.ref r0, .ref r1, .int a2]) (n := 8) (Nat.le_of_ble_eq_true rfl)
  rw [lg_entry_eq]
  generalize (lg_sl ([.ref r0, .ref r1, .int a2]) ++ List.replicate (8 - (lg_sl ([.ref r0, .ref r1, .int a2])).length) Slot.unset).toArray = ls at hl ⊢
  have hl : lv_has ls 8 [(0, .ref r0), (1, .ref r1), (2, .int a2)] := hl
  generalize hR : (headSpec (jw yX7_pushTerm cX7_pushTerm 8 none) ({ frames := 1, cells := 0, slots := 0, locals := 25 })).room = R
  subst hH0
  have hh : jSt (dC, dI) B base G0 G0 EX7_pushTermB s.heap 0 0 [] [] [] s.heap [] := jSt.start hX hP0 jMc.nil jIs.nil
  clear hX hP0
  have hk0 : (0 : Int32).toInt = 0 := by decide
  have hk1 : (1 : Int32).toInt = 1 := by decide
  have hk2 : (2 : Int32).toInt = 2 := by decide
  have hk4 : (4 : Int32).toInt = 4 := by decide
  have hk10 : (10 : Int32).toInt = 10 := by decide
  have hk15 : (15 : Int32).toInt = 15 := by decide
  have hk16 : (16 : Int32).toInt = 16 := by decide
  have hk17 : (17 : Int32).toInt = 17 := by decide
  have hk18 : (18 : Int32).toInt = 18 := by decide
  have hk2047 : (2047 : Int32).toInt = 2047 := by decide
  have hly_9_3 := htw (u_lay RX7 TX7 3) (jWc_wsX70 _ (u_in_lay (by decide)))
  have hly_9_4 := htw (u_lay RX7 TX7 4) (jWc_wsX70 _ (u_in_lay (by decide)))
  have hlk_15 := (htw (.fieldLink RX7 15 "ProofServer$Printer" "boundNames" "[I") (jWr_9 _ (List.mem_of_getElem? (i := 8) rfl)))
  have hlk_18 := (htw (.fieldLink RX7 18 "ProofServer$Printer" "boundMore" "[I") (jWr_9 _ (List.mem_of_getElem? (i := 9) rfl)))
  have hrg_a2 := jb_rng a2
  obtain ⟨f_l1_1, hh_1⟩ := hh.cpin hB280 (by decide) (by decide) hg_r1
  clear hh
  refine lv_aload_n hx hb dX7_pushTerm_0 rfl (lv_at hl 1 rfl) ?_
  refine lv_iload_n hx hb dX7_pushTerm_1 rfl (lv_at hl 2 rfl) ?_
  refine j7_ialdM hx hb hK hh_1 hB280 1 rfl (by decide) hg_r1 (x := a2.toInt) (rfl) (by omega) (j := 0) rfl dX7_pushTerm_2 (fun z_2 ez_2 (hz_2 : -1 ≤ z_2.toInt) => ?_)
  have hqz_2 : z_2.toInt = jSo f_l1_1 (a2.toInt) := by unfold jSo; rw [ez_2]
  refine lv_bipush (v := 15) hx hb dX7_pushTerm_3 (by decide) ?_
  refine lv_ishr hx hb dX7_pushTerm_5 ?_
  refine lv_topi (fun z_3 ez_3 => ?_)
  have hz_3 : z_3.toInt = z_2.toInt / 2 ^ 15 := by rw [ez_3]; exact jb_ishr 15 (rfl) (by decide)
  have hbz_3 := jb_rng z_2
  refine lv_istore_n (lv' := [(3, .int z_3), (0, .ref r0), (1, .ref r1), (2, .int a2)]) hx hb dX7_pushTerm_6 rfl hl (by decide) rfl (fun ls hl => ?_)
  refine lv_aload_n hx hb dX7_pushTerm_7 rfl (lv_at hl 2 rfl) ?_
  refine lv_iload_n hx hb dX7_pushTerm_8 rfl (lv_at hl 3 rfl) ?_
  refine j7_ialdM hx hb hK hh_1 hB280 1 rfl (by decide) hg_r1 (x := a2.toInt) (rfl) (by omega) (j := 0) rfl dX7_pushTerm_9 (fun z_4 ez_4 (hz_4 : -1 ≤ z_4.toInt) => ?_)
  have hqz_4 : z_4.toInt = jSo f_l1_1 (a2.toInt) := by unfold jSo; rw [ez_4]
  refine lv_bipush (v := 15) hx hb dX7_pushTerm_10 (by decide) ?_
  refine lv_iand hx hb dX7_pushTerm_12 ?_
  refine lv_topi (fun z_5 ez_5 => ?_)
  have hz_5 : 0 ≤ z_5.toInt ∧ z_5.toInt ≤ 15 := by rw [ez_5]; exact jb_and z_4 (m := 15) (k := 4) (by decide) (by decide)
  have hbz_5 : z_5.toInt = z_4.toInt % 16 := by rw [ez_5, jb_and15]
  refine lv_bipush (v := 10) hx hb dX7_pushTerm_13 (by decide) ?_
  refine lv_icmp_ne (tgt := 49) hx hb dX7_pushTerm_15 (by decide) (fun c_6 => ?_) (fun c_6 => ?_)
  · skip
    have c_6' : z_5.toInt ≠ 10 := jb_ne (rfl) ((by decide)) c_6
    refine lv_aload_n hx hb dX7_pushTerm_49 rfl (lv_at hl 2 rfl) ?_
    refine lv_iload_n hx hb dX7_pushTerm_50 rfl (lv_at hl 3 rfl) ?_
    refine j7_ialdM hx hb hK hh_1 hB280 1 rfl (by decide) hg_r1 (x := a2.toInt) (rfl) (by omega) (j := 0) rfl dX7_pushTerm_51 (fun z_7 ez_7 (hz_7 : -1 ≤ z_7.toInt) => ?_)
    have hqz_7 : z_7.toInt = jSo f_l1_1 (a2.toInt) := by unfold jSo; rw [ez_7]
    refine lv_iconst (v := 4) hx hb dX7_pushTerm_52 (by decide) ?_
    refine lv_ishr hx hb dX7_pushTerm_53 ?_
    refine lv_topi (fun z_8 ez_8 => ?_)
    have hz_8 : z_8.toInt = z_7.toInt / 2 ^ 4 := by rw [ez_8]; exact jb_ishr 4 (rfl) (by decide)
    refine lv_sipush (v := 2047) hx hb dX7_pushTerm_54 (by decide) ?_
    refine lv_iand hx hb dX7_pushTerm_57 ?_
    refine lv_topi (fun z_9 ez_9 => ?_)
    have hz_9 : 0 ≤ z_9.toInt ∧ z_9.toInt ≤ 2047 := by rw [ez_9]; exact jb_and z_8 (m := 2047) (k := 11) (by decide) (by decide)
    refine lv_istore (lv' := [(4, .int z_9), (3, .int z_3), (0, .ref r0), (1, .ref r1), (2, .int a2)]) hx hb dX7_pushTerm_58 hl (by decide) rfl (fun ls hl => ?_)
    refine lv_iload hx hb dX7_pushTerm_60 (lv_at hl 0 rfl) ?_
    have C72 : ∀ (H_10 : Heap) (locs_10 : List Loc), jSt (dC, dI) B base G0 G0 EX7_pushTermB s.heap 0 0 [] [(r1, 280, n1, ca 1, f_l1_1)] [] H_10 locs_10 → (True) → ∀ ls : Array Slot, lv_has ls 8 [(0, .ref r0), (1, .ref r1), (2, .int a2), (3, .int z_3), (4, .int z_9)] → W p l e R s m ([.ref r0, .ref r1, .int a2] : List Value).toArray below meth c H_10 locs_10 0 0 Q (F0 m 72 ls []) := by
      intro  H_10 locs_10 hh_10  hi_10 ls hl
      refine lv_iload hx hb dX7_pushTerm_72 (lv_at hl 4 rfl) ?_
      refine lv_istore (lv' := [(5, .int z_9), (0, .ref r0), (1, .ref r1), (2, .int a2), (3, .int z_3), (4, .int z_9)]) hx hb dX7_pushTerm_74 hl (by decide) rfl (fun ls hl => ?_)
      have L76 : ∀ (N : Nat) (v5_11 : Int32) (H_11 : Heap) (locs_11 : List Loc), jSt (dC, dI) B base G0 G0 EX7_pushTermB s.heap 0 0 [] [(r1, 280, n1, ca 1, f_l1_1)] [] H_11 locs_11 → (0 ≤ v5_11.toInt ∧ v5_11.toInt ≤ 2047) → (v5_11.toInt : Int) < N → ∀ ls : Array Slot, lv_has ls 8 [(0, .ref r0), (1, .ref r1), (2, .int a2), (3, .int z_3), (4, .int z_9), (5, .int v5_11)] → W p l e R s m ([.ref r0, .ref r1, .int a2] : List Value).toArray below meth c H_11 locs_11 0 0 Q (F0 m 76 ls []) := by
        intro N
        induction N with
        | zero => intro v5_11 H_11 locs_11 hh_11  hi_11 hm; exact absurd hm (by omega)
        | succ N L76 =>
          intro v5_11 H_11 locs_11 hh_11  hi_11 hm_11 ls hl
          obtain ⟨hi_11_0, hi_11_1⟩ := hi_11
          refine lv_iload hx hb dX7_pushTerm_76 (lv_at hl 5 rfl) ?_
          refine lv_if_le (tgt := 143) hx hb dX7_pushTerm_78 (by decide) (fun c_12 => ?_) (fun c_12 => ?_)
          · skip
            have c_12' : v5_11.toInt ≤ 0 := jb_le (rfl) ((by decide)) c_12
            refine lv_aload_n hx hb dX7_pushTerm_143 rfl (lv_at hl 0 rfl) ?_
            refine lv_iconst (v := 1) hx hb dX7_pushTerm_144 (by decide) ?_
            refine lv_iload_n hx hb dX7_pushTerm_145 rfl (lv_at hl 3 rfl) ?_
            refine va_callv (A0 := jA base) (H0 := s.heap) (va_runV (As := [.int 1, .int z_3]) (rest := []) ⟨hx, hb, hml, hown, hts⟩ (uX7_pushB l dC dI ca base B hB hAp hB9 hB286 G0 H_11 r0 1 z_3) (cwV 2 hts (jgV (jWr_31 _ (List.mem_of_getElem? (i := 9) rfl)) (jWr_31 _ (List.mem_of_getElem? (i := 10) rfl)) (jWr_31 _ (List.mem_of_getElem? (i := 11) rfl)) (jWr_2 _ (List.mem_of_getElem? (i := 8) rfl)) (jWr_31 _ (List.mem_of_getElem? (i := 12) rfl))) rfl rfl rfl (by decide +kernel) ⟨by rw [← hR]; exact Nat.le_of_ble_eq_true rfl, by rw [← hR]; exact Nat.le_of_ble_eq_true rfl⟩) ⟨fun a U g mk q => by obtain ⟨q0, q1, q2, qK, q10, q11, q12⟩ := q; exact ⟨q0, q1, q2, jG.calling g mk a qK, q10, q11, q12⟩, hh_11.recv (C := RX7) (T := TX7) (N := 5) hB9 rfl (by decide) hg_r0 hK, fun U hU hW => ⟨rfl, hU, hh_11.2.1, hG.step hW hU hh_11.1, hg_r0, jP.nil, by first | omega | (refine ⟨?_, ?_, ?_⟩ <;> (first | omega | rfl | assumption | decide | exact Or.inl rfl | exact Or.inr rfl | (simp only; omega)))⟩⟩ rfl rfl hl.1 rfl (lv_room (Nat.le_of_ble_eq_true rfl)) dX7_pushTerm_146 ⟨Nat.zero_le _, Nat.zero_le _⟩) hh_11.1 (fun q _ h => h) (fun q h => h) (fun u_13 t_13 H_13 locs_13 ht_13 hvm_13 hr_14 hb_13 hz_13 hk_13 hS_13 => ?_)
            rw [ht_13] at hb_13
            obtain ⟨hb_131, hb_132, hb_133, hb_134, hb_135⟩ := hb_13
            have hh_13 : jSt (dC, dI) B base G0 G0 EX7_pushTermB s.heap 0 0 [] [(r1, 280, n1, ca 1, f_l1_1)] [] H_13 locs_13 := ((hh_11.call hb_131 hb_132 hb_133 hb_134 hS_13 rfl (L1 := []) [] rfl rfl (M1 := [(r1, 280, n1, ca 1, f_l1_1)]) [0] rfl rfl (I1 := []) [] rfl rfl).more hb_135)
            clear hh_11 ht_13 hvm_13 hz_13 hk_13 hS_13 hb_131 hb_132 hb_133 hb_134 hb_135
            rw [hQ]
            exact W.vret hx hb hr (fun t ht hW => ⟨⟨(), rfl, trivial, hh_13.rt (M1 := []) [] rfl ht⟩, by rw [ht]; try exact hh_13.1.1, fun q h9 hq => by rw [ht]; try exact hh_13.1.2.1 q h9 hq⟩) hh_13.1.2.2 dX7_pushTerm_149
          · skip
            have c_12' : v5_11.toInt > 0 := jb_le_n (rfl) ((by decide)) c_12
            refine lv_iload_n hx hb dX7_pushTerm_81 rfl (lv_at hl 2 rfl) ?_
            refine lv_iconst (v := 1) hx hb dX7_pushTerm_82 (by decide) ?_
            refine lv_iadd hx hb dX7_pushTerm_83 ?_
            refine lv_topi (fun z_15 ez_15 => ?_)
            have hz_15 : z_15.toInt = a2.toInt + 1 := by rw [ez_15]; exact jb_iadd2 (rfl) ((by decide)) (by omega)
            refine lv_istore (lv' := [(6, .int z_15), (0, .ref r0), (1, .ref r1), (2, .int a2), (3, .int z_3), (4, .int z_9), (5, .int v5_11)]) hx hb dX7_pushTerm_84 hl (by decide) rfl (fun ls hl => ?_)
            refine lv_iconst (v := 1) hx hb dX7_pushTerm_86 (by decide) ?_
            refine lv_istore (lv' := [(7, .int 1), (6, .int z_15), (0, .ref r0), (1, .ref r1), (2, .int a2), (3, .int z_3), (4, .int z_9), (5, .int v5_11)]) hx hb dX7_pushTerm_87 hl (by decide) rfl (fun ls hl => ?_)
            have L89 : ∀ (N : Nat) (v6_16 : Int32) (v7_16 : Int32) (H_16 : Heap) (locs_16 : List Loc), jSt (dC, dI) B base G0 G0 EX7_pushTermB s.heap 0 0 [] [(r1, 280, n1, ca 1, f_l1_1)] [] H_16 locs_16 → (1 ≤ v7_16.toInt ∧ v7_16.toInt ≤ 2048 ∧ 0 ≤ v6_16.toInt ∧ v6_16.toInt ≤ 200000) → (((v5_11.toInt - v7_16.toInt).toNat : Int) : Int) < N → ∀ ls : Array Slot, lv_has ls 8 [(0, .ref r0), (1, .ref r1), (2, .int a2), (3, .int z_3), (4, .int z_9), (5, .int v5_11), (6, .int v6_16), (7, .int v7_16)] → W p l e R s m ([.ref r0, .ref r1, .int a2] : List Value).toArray below meth c H_16 locs_16 0 0 Q (F0 m 89 ls []) := by
              intro N
              induction N with
              | zero => intro v6_16 v7_16 H_16 locs_16 hh_16  hi_16 hm; exact absurd hm (by omega)
              | succ N L89 =>
                intro v6_16 v7_16 H_16 locs_16 hh_16  hi_16 hm_16 ls hl
                obtain ⟨hi_16_0, hi_16_1, hi_16_2, hi_16_3⟩ := hi_16
                refine lv_iload hx hb dX7_pushTerm_89 (lv_at hl 7 rfl) ?_
                refine lv_iload hx hb dX7_pushTerm_91 (lv_at hl 5 rfl) ?_
                refine lv_icmp_ge (tgt := 112) hx hb dX7_pushTerm_93 (by decide) (fun c_17 => ?_) (fun c_17 => ?_)
                · skip
                  have c_17' : v7_16.toInt ≥ v5_11.toInt := jb_ge (rfl) (rfl) c_17
                  refine lv_aload_n hx hb dX7_pushTerm_112 rfl (lv_at hl 0 rfl) ?_
                  refine lv_iconst (v := 2) hx hb dX7_pushTerm_113 (by decide) ?_
                  refine lv_iload hx hb dX7_pushTerm_114 (lv_at hl 6 rfl) ?_
                  refine va_callv (A0 := jA base) (H0 := s.heap) (va_runV (As := [.int 2, .int v6_16]) (rest := []) ⟨hx, hb, hml, hown, hts⟩ (uX7_pushB l dC dI ca base B hB hAp hB9 hB286 G0 H_16 r0 2 v6_16) (cwV 2 hts (jgV (jWr_31 _ (List.mem_of_getElem? (i := 9) rfl)) (jWr_31 _ (List.mem_of_getElem? (i := 10) rfl)) (jWr_31 _ (List.mem_of_getElem? (i := 11) rfl)) (jWr_2 _ (List.mem_of_getElem? (i := 8) rfl)) (jWr_31 _ (List.mem_of_getElem? (i := 12) rfl))) rfl rfl rfl (by decide +kernel) ⟨by rw [← hR]; exact Nat.le_of_ble_eq_true rfl, by rw [← hR]; exact Nat.le_of_ble_eq_true rfl⟩) ⟨fun a U g mk q => by obtain ⟨q0, q1, q2, qK, q10, q11, q12⟩ := q; exact ⟨q0, q1, q2, jG.calling g mk a qK, q10, q11, q12⟩, hh_16.recv (C := RX7) (T := TX7) (N := 5) hB9 rfl (by decide) hg_r0 hK, fun U hU hW => ⟨rfl, hU, hh_16.2.1, hG.step hW hU hh_16.1, hg_r0, jP.nil, by first | omega | (refine ⟨?_, ?_, ?_⟩ <;> (first | omega | rfl | assumption | decide | exact Or.inl rfl | exact Or.inr rfl | (simp only; omega)))⟩⟩ rfl rfl hl.1 rfl (lv_room (Nat.le_of_ble_eq_true rfl)) dX7_pushTerm_116 ⟨Nat.zero_le _, Nat.zero_le _⟩) hh_16.1 (fun q _ h => h) (fun q h => h) (fun u_18 t_18 H_18 locs_18 ht_18 hvm_18 hr_19 hb_18 hz_18 hk_18 hS_18 => ?_)
                  rw [ht_18] at hb_18
                  obtain ⟨hb_181, hb_182, hb_183, hb_184, hb_185⟩ := hb_18
                  have hh_18 : jSt (dC, dI) B base G0 G0 EX7_pushTermB s.heap 0 0 [] [(r1, 280, n1, ca 1, f_l1_1)] [] H_18 locs_18 := ((hh_16.call hb_181 hb_182 hb_183 hb_184 hS_18 rfl (L1 := []) [] rfl rfl (M1 := [(r1, 280, n1, ca 1, f_l1_1)]) [0] rfl rfl (I1 := []) [] rfl rfl).more hb_185)
                  clear hh_16 ht_18 hvm_18 hz_18 hk_18 hS_18 hb_181 hb_182 hb_183 hb_184 hb_185
                  refine lv_aload_n hx hb dX7_pushTerm_119 rfl (lv_at hl 0 rfl) ?_
                  refine lv_iconst (v := 0) hx hb dX7_pushTerm_120 (by decide) ?_
                  refine lv_iload hx hb dX7_pushTerm_121 (lv_at hl 5 rfl) ?_
                  refine lv_iconst (v := 1) hx hb dX7_pushTerm_123 (by decide) ?_
                  refine lv_icmp_le (tgt := 132) hx hb dX7_pushTerm_124 (by decide) (fun c_20 => ?_) (fun c_20 => ?_)
                  · skip
                    have c_20' : v5_11.toInt ≤ 1 := jb_le (rfl) ((by decide)) c_20
                    refine lv_bipush (v := 17) hx hb dX7_pushTerm_132 (by decide) ?_
                    refine va_callv (A0 := jA base) (H0 := s.heap) (va_runV (As := [.int 0, .int 17]) (rest := []) ⟨hx, hb, hml, hown, hts⟩ (uX7_pushB l dC dI ca base B hB hAp hB9 hB286 G0 H_18 r0 0 17) (cwV 2 hts (jgV (jWr_31 _ (List.mem_of_getElem? (i := 9) rfl)) (jWr_31 _ (List.mem_of_getElem? (i := 10) rfl)) (jWr_31 _ (List.mem_of_getElem? (i := 11) rfl)) (jWr_2 _ (List.mem_of_getElem? (i := 8) rfl)) (jWr_31 _ (List.mem_of_getElem? (i := 12) rfl))) rfl rfl rfl (by decide +kernel) ⟨by rw [← hR]; exact Nat.le_of_ble_eq_true rfl, by rw [← hR]; exact Nat.le_of_ble_eq_true rfl⟩) ⟨fun a U g mk q => by obtain ⟨q0, q1, q2, qK, q10, q11, q12⟩ := q; exact ⟨q0, q1, q2, jG.calling g mk a qK, q10, q11, q12⟩, hh_18.recv (C := RX7) (T := TX7) (N := 5) hB9 rfl (by decide) hg_r0 hK, fun U hU hW => ⟨rfl, hU, hh_18.2.1, hG.step hW hU hh_18.1, hg_r0, jP.nil, by first | omega | (refine ⟨?_, ?_, ?_⟩ <;> (first | omega | rfl | assumption | decide | exact Or.inl rfl | exact Or.inr rfl | (simp only; omega)))⟩⟩ rfl rfl hl.1 rfl (lv_room (Nat.le_of_ble_eq_true rfl)) dX7_pushTerm_134 ⟨Nat.zero_le _, Nat.zero_le _⟩) hh_18.1 (fun q _ h => h) (fun q h => h) (fun u_21 t_21 H_21 locs_21 ht_21 hvm_21 hr_22 hb_21 hz_21 hk_21 hS_21 => ?_)
                    rw [ht_21] at hb_21
                    obtain ⟨hb_211, hb_212, hb_213, hb_214, hb_215⟩ := hb_21
                    have hh_21 : jSt (dC, dI) B base G0 G0 EX7_pushTermB s.heap 0 0 [] [(r1, 280, n1, ca 1, f_l1_1)] [] H_21 locs_21 := ((hh_18.call hb_211 hb_212 hb_213 hb_214 hS_21 rfl (L1 := []) [] rfl rfl (M1 := [(r1, 280, n1, ca 1, f_l1_1)]) [0] rfl rfl (I1 := []) [] rfl rfl).more hb_215)
                    clear hh_18 ht_21 hvm_21 hz_21 hk_21 hS_21 hb_211 hb_212 hb_213 hb_214 hb_215
                    obtain ⟨z_23, ez_23⟩ : ∃ y : Int32, y = v5_11 + (-1) := ⟨_, rfl⟩
                    refine lv_iinc (v := z_23) (lv' := [(5, .int z_23), (0, .ref r0), (1, .ref r1), (2, .int a2), (3, .int z_3), (4, .int z_9), (6, .int v6_16), (7, .int v7_16)]) hx hb dX7_pushTerm_137 hl (k := 5) rfl (by rw [ez_23]; rfl) (by decide) rfl (fun ls hl => ?_)
                    have hz_23 : z_23.toInt = v5_11.toInt + (-1) := by rw [ez_23]; exact jb_iadd2 (rfl) (by decide) (by omega)
                    refine lv_goto (tgt := 76) hx hb dX7_pushTerm_140 (by decide) ?_
                    exact L76 z_23 _ _ hh_21 (by first | omega | (refine ⟨?_, ?_⟩ <;> (first | omega | rfl | assumption | decide | exact Or.inl rfl | exact Or.inr rfl | (simp only; omega)))) (by omega) _ (lv_sub hl [1, 2, 3, 4, 5, 0] rfl)
                  · skip
                    have c_20' : v5_11.toInt > 1 := jb_le_n (rfl) ((by decide)) c_20
                    refine lv_bipush (v := 18) hx hb dX7_pushTerm_127 (by decide) ?_
                    refine lv_goto (tgt := 134) hx hb dX7_pushTerm_129 (by decide) ?_
                    refine va_callv (A0 := jA base) (H0 := s.heap) (va_runV (As := [.int 0, .int 18]) (rest := []) ⟨hx, hb, hml, hown, hts⟩ (uX7_pushB l dC dI ca base B hB hAp hB9 hB286 G0 H_18 r0 0 18) (cwV 2 hts (jgV (jWr_31 _ (List.mem_of_getElem? (i := 9) rfl)) (jWr_31 _ (List.mem_of_getElem? (i := 10) rfl)) (jWr_31 _ (List.mem_of_getElem? (i := 11) rfl)) (jWr_2 _ (List.mem_of_getElem? (i := 8) rfl)) (jWr_31 _ (List.mem_of_getElem? (i := 12) rfl))) rfl rfl rfl (by decide +kernel) ⟨by rw [← hR]; exact Nat.le_of_ble_eq_true rfl, by rw [← hR]; exact Nat.le_of_ble_eq_true rfl⟩) ⟨fun a U g mk q => by obtain ⟨q0, q1, q2, qK, q10, q11, q12⟩ := q; exact ⟨q0, q1, q2, jG.calling g mk a qK, q10, q11, q12⟩, hh_18.recv (C := RX7) (T := TX7) (N := 5) hB9 rfl (by decide) hg_r0 hK, fun U hU hW => ⟨rfl, hU, hh_18.2.1, hG.step hW hU hh_18.1, hg_r0, jP.nil, by first | omega | (refine ⟨?_, ?_, ?_⟩ <;> (first | omega | rfl | assumption | decide | exact Or.inl rfl | exact Or.inr rfl | (simp only; omega)))⟩⟩ rfl rfl hl.1 rfl (lv_room (Nat.le_of_ble_eq_true rfl)) dX7_pushTerm_134 ⟨Nat.zero_le _, Nat.zero_le _⟩) hh_18.1 (fun q _ h => h) (fun q h => h) (fun u_24 t_24 H_24 locs_24 ht_24 hvm_24 hr_25 hb_24 hz_24 hk_24 hS_24 => ?_)
                    rw [ht_24] at hb_24
                    obtain ⟨hb_241, hb_242, hb_243, hb_244, hb_245⟩ := hb_24
                    have hh_24 : jSt (dC, dI) B base G0 G0 EX7_pushTermB s.heap 0 0 [] [(r1, 280, n1, ca 1, f_l1_1)] [] H_24 locs_24 := ((hh_18.call hb_241 hb_242 hb_243 hb_244 hS_24 rfl (L1 := []) [] rfl rfl (M1 := [(r1, 280, n1, ca 1, f_l1_1)]) [0] rfl rfl (I1 := []) [] rfl rfl).more hb_245)
                    clear hh_18 ht_24 hvm_24 hz_24 hk_24 hS_24 hb_241 hb_242 hb_243 hb_244 hb_245
                    obtain ⟨z_26, ez_26⟩ : ∃ y : Int32, y = v5_11 + (-1) := ⟨_, rfl⟩
                    refine lv_iinc (v := z_26) (lv' := [(5, .int z_26), (0, .ref r0), (1, .ref r1), (2, .int a2), (3, .int z_3), (4, .int z_9), (6, .int v6_16), (7, .int v7_16)]) hx hb dX7_pushTerm_137 hl (k := 5) rfl (by rw [ez_26]; rfl) (by decide) rfl (fun ls hl => ?_)
                    have hz_26 : z_26.toInt = v5_11.toInt + (-1) := by rw [ez_26]; exact jb_iadd2 (rfl) (by decide) (by omega)
                    refine lv_goto (tgt := 76) hx hb dX7_pushTerm_140 (by decide) ?_
                    exact L76 z_26 _ _ hh_24 (by first | omega | (refine ⟨?_, ?_⟩ <;> (first | omega | rfl | assumption | decide | exact Or.inl rfl | exact Or.inr rfl | (simp only; omega)))) (by omega) _ (lv_sub hl [1, 2, 3, 4, 5, 0] rfl)
                · skip
                  have c_17' : v7_16.toInt < v5_11.toInt := jb_ge_n (rfl) (rfl) c_17
                  refine lv_aload_n hx hb dX7_pushTerm_96 rfl (lv_at hl 1 rfl) ?_
                  refine lv_iload hx hb dX7_pushTerm_97 (lv_at hl 6 rfl) ?_
                  refine lv_aload_n hx hb dX7_pushTerm_99 rfl (lv_at hl 1 rfl) ?_
                  refine j7_len hx hb hK hh_16 hB280 1 rfl (by decide) hg_r1 (by omega) dX7_pushTerm_100 (fun z_27 hz_27 => ?_)
                  refine va_calli (A0 := jA base) (H0 := s.heap) (va_runSN (As := [.ref r1, .int v6_16, .int z_27]) (rest := []) ⟨hx, hb, hml, hown, hts⟩ (uX11_endOfB l dC dI ca base B hB hAp hB280 G0 H_16 r1 v6_16 z_27 n1) ⟨va_cnB 3 hts (jgW (jWr_32 _ (List.mem_of_getElem? (i := 4) rfl))) rfl rfl rfl (hG.2.2.1 RX7 144 yX11_endOf "ProofServer" (List.mem_of_getElem? (i := 994) (by decide +kernel))) (htw (.initialized RX11) (jWr_1 _ (List.mem_of_getElem? (i := 2) rfl))) (by decide +kernel) ⟨by rw [← hR]; exact Nat.le_of_ble_eq_true rfl, by rw [← hR]; exact Nat.le_of_ble_eq_true rfl⟩, htw (.static yX11_endOf) (jWr_32 _ (List.mem_of_getElem? (i := 3) rfl)), trivial⟩ ⟨fun a U g mk q => by obtain ⟨q0, q1, q2, qK, q10, q11, q12⟩ := q; exact ⟨q0, q1, q2, jG.calling g mk a qK, q10, q11, q12⟩, fun U hU hW => ⟨rfl, hU, hh_16.2.1, hG.step hW hU hh_16.1, hg_r1, jP.nil, by first | omega | (refine ⟨?_, ?_, ?_⟩ <;> (first | omega | rfl | assumption | decide | exact Or.inl rfl | exact Or.inr rfl | (simp only; omega)))⟩⟩ rfl rfl hl.1 rfl (lv_room (Nat.le_of_ble_eq_true rfl)) dX7_pushTerm_101 ⟨Nat.zero_le _, Nat.zero_le _⟩) hh_16.1 (fun q _ h => h) (fun q h => h) (fun r_29 u_28 t_28 H_28 locs_28 ht_28 hvm_28 hr_29 hb_28 hz_28 hk_28 hS_28 => ?_)
                  rw [ht_28] at hb_28
                  obtain ⟨hb_281, hb_282, hb_283, hb_284, hb_285⟩ := hb_28
                  have hh_28 : jSt (dC, dI) B base G0 G0 EX7_pushTermB s.heap 0 0 [] [(r1, 280, n1, ca 1, f_l1_1)] [] H_28 locs_28 := ((hh_16.call hb_281 hb_282 hb_283 hb_284 hS_28 rfl (L1 := []) [] rfl rfl (M1 := [(r1, 280, n1, ca 1, f_l1_1)]) [0] rfl rfl (I1 := []) [] rfl rfl).more hb_285)
                  clear hh_16 ht_28 hvm_28 hz_28 hk_28 hS_28 hb_281 hb_282 hb_283 hb_284 hb_285
                  obtain ⟨hr_29_0, hr_29_1⟩ := hr_29
                  refine lv_istore (lv' := [(6, .int r_29), (0, .ref r0), (1, .ref r1), (2, .int a2), (3, .int z_3), (4, .int z_9), (5, .int v5_11), (7, .int v7_16)]) hx hb dX7_pushTerm_104 hl (by decide) rfl (fun ls hl => ?_)
                  obtain ⟨z_30, ez_30⟩ : ∃ y : Int32, y = v7_16 + 1 := ⟨_, rfl⟩
                  refine lv_iinc (v := z_30) (lv' := [(7, .int z_30), (6, .int r_29), (0, .ref r0), (1, .ref r1), (2, .int a2), (3, .int z_3), (4, .int z_9), (5, .int v5_11)]) hx hb dX7_pushTerm_106 hl (k := 7) rfl (by rw [ez_30]; rfl) (by decide) rfl (fun ls hl => ?_)
                  have hz_30 : z_30.toInt = v7_16.toInt + 1 := by rw [ez_30]; exact jb_iadd2 (rfl) (by decide) (by omega)
                  refine lv_goto (tgt := 89) hx hb dX7_pushTerm_109 (by decide) ?_
                  exact L89 r_29 z_30 _ _ hh_28 (by first | omega | (refine ⟨?_, ?_, ?_, ?_⟩ <;> (first | omega | rfl | assumption | decide | exact Or.inl rfl | exact Or.inr rfl | (simp only; omega)))) (by omega) _ (lv_sub hl [2, 3, 4, 5, 6, 7, 1, 0] rfl)
            exact L89 (((v5_11.toInt - (1 : Int32).toInt).toNat : Int) : Int).toNat.succ z_15 1 _ _ hh_11 (by first | omega | (refine ⟨?_, ?_, ?_, ?_⟩ <;> (first | omega | rfl | assumption | decide | exact Or.inl rfl | exact Or.inr rfl | (simp only; omega)))) (by omega) _ (lv_sub hl [2, 3, 4, 5, 6, 7, 1, 0] rfl)
      exact L76 ((z_9 : Int32).toInt : Int).toNat.succ z_9 _ _ hh_10 (by first | omega | (refine ⟨?_, ?_⟩ <;> (first | omega | rfl | assumption | decide | exact Or.inl rfl | exact Or.inr rfl | (simp only; omega)))) (by omega) _ (lv_sub hl [1, 2, 3, 4, 5, 0] rfl)
    refine lv_if_le (tgt := 72) hx hb dX7_pushTerm_62 (by decide) (fun c_31 => ?_) (fun c_31 => ?_)
    · skip
      have c_31' : z_9.toInt ≤ 0 := jb_le (rfl) ((by decide)) c_31
      exact C72  _ _ hh_1 (trivial) _ (lv_sub hl [2, 3, 4, 1, 0] rfl)
    · skip
      have c_31' : z_9.toInt > 0 := jb_le_n (rfl) ((by decide)) c_31
      refine lv_aload_n hx hb dX7_pushTerm_65 rfl (lv_at hl 2 rfl) ?_
      refine lv_iconst (v := 0) hx hb dX7_pushTerm_66 (by decide) ?_
      refine lv_bipush (v := 16) hx hb dX7_pushTerm_67 (by decide) ?_
      refine va_callv (A0 := jA base) (H0 := s.heap) (va_runV (As := [.int 0, .int 16]) (rest := []) ⟨hx, hb, hml, hown, hts⟩ (uX7_pushB l dC dI ca base B hB hAp hB9 hB286 G0 s.heap r0 0 16) (cwV 2 hts (jgV (jWr_31 _ (List.mem_of_getElem? (i := 9) rfl)) (jWr_31 _ (List.mem_of_getElem? (i := 10) rfl)) (jWr_31 _ (List.mem_of_getElem? (i := 11) rfl)) (jWr_2 _ (List.mem_of_getElem? (i := 8) rfl)) (jWr_31 _ (List.mem_of_getElem? (i := 12) rfl))) rfl rfl rfl (by decide +kernel) ⟨by rw [← hR]; exact Nat.le_of_ble_eq_true rfl, by rw [← hR]; exact Nat.le_of_ble_eq_true rfl⟩) ⟨fun a U g mk q => by obtain ⟨q0, q1, q2, qK, q10, q11, q12⟩ := q; exact ⟨q0, q1, q2, jG.calling g mk a qK, q10, q11, q12⟩, hh_1.recv (C := RX7) (T := TX7) (N := 5) hB9 rfl (by decide) hg_r0 hK, fun U hU hW => ⟨rfl, hU, hh_1.2.1, hG.step hW hU hh_1.1, hg_r0, jP.nil, by first | omega | (refine ⟨?_, ?_, ?_⟩ <;> (first | omega | rfl | assumption | decide | exact Or.inl rfl | exact Or.inr rfl | (simp only; omega)))⟩⟩ rfl rfl hl.1 rfl (lv_room (Nat.le_of_ble_eq_true rfl)) dX7_pushTerm_69 ⟨Nat.zero_le _, Nat.zero_le _⟩) hh_1.1 (fun q _ h => h) (fun q h => h) (fun u_32 t_32 H_32 locs_32 ht_32 hvm_32 hr_33 hb_32 hz_32 hk_32 hS_32 => ?_)
      rw [ht_32] at hb_32
      obtain ⟨hb_321, hb_322, hb_323, hb_324, hb_325⟩ := hb_32
      have hh_32 : jSt (dC, dI) B base G0 G0 EX7_pushTermB s.heap 0 0 [] [(r1, 280, n1, ca 1, f_l1_1)] [] H_32 locs_32 := ((hh_1.call hb_321 hb_322 hb_323 hb_324 hS_32 rfl (L1 := []) [] rfl rfl (M1 := [(r1, 280, n1, ca 1, f_l1_1)]) [0] rfl rfl (I1 := []) [] rfl rfl).more hb_325)
      clear hh_1 ht_32 hvm_32 hz_32 hk_32 hS_32 hb_321 hb_322 hb_323 hb_324 hb_325
      exact C72  _ _ hh_32 (trivial) _ (lv_sub hl [2, 3, 4, 1, 0] rfl)
  · skip
    have c_6' : z_5.toInt = 10 := jb_ne_n (rfl) ((by decide)) c_6
    refine lv_iload_n hx hb dX7_pushTerm_18 rfl (lv_at hl 0 rfl) ?_
    refine lv_aload_n hx hb dX7_pushTerm_19 rfl (lv_at hl 1 rfl) ?_
    obtain ⟨v_34, hv_34, hh_35⟩ := hh_1.pin (C := RX7) (T := TX7) (N := 5) hB9 rfl (by decide) hg_r0 (i := 3) (by decide) rfl
    clear hh_1
    obtain ⟨boundNames_36, rfl, hg_boundNames_36⟩ := hv_34
    refine j7_read hx hb hown hK (C := RX7) (T := TX7) (N := 5) rfl hly_9_3 hlk_15 (hh_35.at 0 rfl) dX7_pushTerm_20 ?_
    refine j7_len hx hb hK hh_35 hB287 1 rfl (by decide) hg_boundNames_36 (by omega) dX7_pushTerm_23 (fun z_37 hz_37 => ?_)
    refine lv_icmp_ge (tgt := 48) hx hb dX7_pushTerm_24 (by decide) (fun c_38 => ?_) (fun c_38 => ?_)
    · skip
      have c_38' : z_3.toInt ≥ z_37.toInt := jb_ge (rfl) (rfl) c_38
      rw [hQ]
      exact W.vret hx hb hr (fun t ht hW => ⟨⟨(), rfl, trivial, hh_35.rt (M1 := []) [] rfl ht⟩, by rw [ht]; try exact hh_35.1.1, fun q h9 hq => by rw [ht]; try exact hh_35.1.2.1 q h9 hq⟩) hh_35.1.2.2 dX7_pushTerm_48
    · skip
      have c_38' : z_3.toInt < z_37.toInt := jb_ge_n (rfl) (rfl) c_38
      refine lv_aload_n hx hb dX7_pushTerm_27 rfl (lv_at hl 1 rfl) ?_
      refine lv_iconst (v := 1) hx hb dX7_pushTerm_28 (by decide) ?_
      refine lv_aload_n hx hb dX7_pushTerm_29 rfl (lv_at hl 1 rfl) ?_
      refine j7_read hx hb hown hK (C := RX7) (T := TX7) (N := 5) rfl hly_9_3 hlk_15 (hh_35.at 0 rfl) dX7_pushTerm_30 ?_
      refine lv_iload_n hx hb dX7_pushTerm_33 rfl (lv_at hl 0 rfl) ?_
      refine j7_iald hx hb hK hh_35 hB287 1 rfl (by decide) hg_boundNames_36 (x := z_3.toInt) (rfl) (by omega) dX7_pushTerm_34 (fun z_39 (hz_39 : 0 ≤ z_39.toInt ∧ z_39.toInt ≤ 65535) => ?_)
      refine lv_aload_n hx hb dX7_pushTerm_35 rfl (lv_at hl 1 rfl) ?_
      obtain ⟨v_40, hv_40, hh_41⟩ := hh_35.pin (C := RX7) (T := TX7) (N := 5) hB9 rfl (by decide) hg_r0 (i := 4) (by decide) rfl
      clear hh_35
      obtain ⟨boundMore_42, rfl, hg_boundMore_42⟩ := hv_40
      refine j7_read hx hb hown hK (C := RX7) (T := TX7) (N := 5) rfl hly_9_4 hlk_18 (hh_41.at 0 rfl) dX7_pushTerm_36 ?_
      refine lv_iload_n hx hb dX7_pushTerm_39 rfl (lv_at hl 0 rfl) ?_
      refine j7_iald hx hb hK hh_41 hB288 1 rfl (by decide) hg_boundMore_42 (x := z_3.toInt) (rfl) (by omega) dX7_pushTerm_40 (fun z_43 (hz_43 : 0 ≤ z_43.toInt ∧ z_43.toInt ≤ 160) => ?_)
      refine lv_bipush (v := 17) hx hb dX7_pushTerm_41 (by decide) ?_
      refine lv_ishl hx hb dX7_pushTerm_43 ?_
      refine lv_topi (fun z_44 ez_44 => ?_)
      have hbz_44 := jb_shlc 17 131072 ez_44 (by decide) (by decide) (by omega) (by omega)
      refine lv_ior hx hb dX7_pushTerm_44 ?_
      refine lv_topi (fun z_45 ez_45 => ?_)
      have hbz_45 := jb_or29 ez_45 (by omega) (by omega) (by omega) (by omega)
      refine va_callv (A0 := jA base) (H0 := s.heap) (va_runV (As := [.int 1, .int z_45]) (rest := []) ⟨hx, hb, hml, hown, hts⟩ (uX7_pushB l dC dI ca base B hB hAp hB9 hB286 G0 s.heap r0 1 z_45) (cwV 2 hts (jgV (jWr_31 _ (List.mem_of_getElem? (i := 9) rfl)) (jWr_31 _ (List.mem_of_getElem? (i := 10) rfl)) (jWr_31 _ (List.mem_of_getElem? (i := 11) rfl)) (jWr_2 _ (List.mem_of_getElem? (i := 8) rfl)) (jWr_31 _ (List.mem_of_getElem? (i := 12) rfl))) rfl rfl rfl (by decide +kernel) ⟨by rw [← hR]; exact Nat.le_of_ble_eq_true rfl, by rw [← hR]; exact Nat.le_of_ble_eq_true rfl⟩) ⟨fun a U g mk q => by obtain ⟨q0, q1, q2, qK, q10, q11, q12⟩ := q; exact ⟨q0, q1, q2, jG.calling g mk a qK, q10, q11, q12⟩, hh_41.recv (C := RX7) (T := TX7) (N := 5) hB9 rfl (by decide) hg_r0 hK, fun U hU hW => ⟨rfl, hU, hh_41.2.1, hG.step hW hU hh_41.1, hg_r0, jP.nil, by first | omega | (refine ⟨?_, ?_, ?_⟩ <;> (first | omega | rfl | assumption | decide | exact Or.inl rfl | exact Or.inr rfl | (simp only; omega)))⟩⟩ rfl rfl hl.1 rfl (lv_room (Nat.le_of_ble_eq_true rfl)) dX7_pushTerm_45 ⟨Nat.zero_le _, Nat.zero_le _⟩) hh_41.1 (fun q _ h => h) (fun q h => h) (fun u_46 t_46 H_46 locs_46 ht_46 hvm_46 hr_47 hb_46 hz_46 hk_46 hS_46 => ?_)
      rw [ht_46] at hb_46
      obtain ⟨hb_461, hb_462, hb_463, hb_464, hb_465⟩ := hb_46
      have hh_46 : jSt (dC, dI) B base G0 G0 EX7_pushTermB s.heap 0 0 [(r0, 9, 4, .ref boundMore_42), (r0, 9, 3, .ref boundNames_36)] [(r1, 280, n1, ca 1, f_l1_1)] [] H_46 locs_46 := ((hh_41.call hb_461 hb_462 hb_463 hb_464 hS_46 rfl (L1 := [(r0, 9, 4, .ref boundMore_42), (r0, 9, 3, .ref boundNames_36)]) [0, 1] rfl rfl (M1 := [(r1, 280, n1, ca 1, f_l1_1)]) [0] rfl rfl (I1 := []) [] rfl rfl).more hb_465)
      clear hh_41 ht_46 hvm_46 hz_46 hk_46 hS_46 hb_461 hb_462 hb_463 hb_464 hb_465
      rw [hQ]
      exact W.vret hx hb hr (fun t ht hW => ⟨⟨(), rfl, trivial, hh_46.rt (M1 := []) [] rfl ht⟩, by rw [ht]; try exact hh_46.1.1, fun q h9 hq => by rw [ht]; try exact hh_46.1.2.1 q h9 hq⟩) hh_46.1.2.2 dX7_pushTerm_48
set_option maxHeartbeats 4000000 in
set_option maxRecDepth 20000 in
theorem uX7_isWrittenInB (l : Launch) (dC : Nat → ClassId) (dI : Nat → Nat → Nat) (ca : Nat → ClassId) (base : Nat) (B : jF) (hB : jBok B) (hAp : jAp (dC, dI)) (hB8 : ∀ n G a H, B 8 n G a H ↔ jOb (dC, dI) 8 4 (F8 n G) a H) (hB9 : ∀ n G a H, B 9 n G a H ↔ jOb (dC, dI) 9 5 (F9b n G) a H) (hB102 : ∀ n G a H, B 102 n G a H ↔ jAl (dC, dI) (ca 2) n a H) (hB132 : ∀ n G a H, B 132 n G a H ↔ jAr (dC, dI) (ca 1) (fun j z => 0 ≤ z.toInt ∧ z.toInt ≤ 10) n a H) (hB280 : ∀ n G a H, B 280 n G a H ↔ jAr (dC, dI) (ca 1) (fun j z => -1 ≤ z.toInt) n a H) (hB287 : ∀ n G a H, B 287 n G a H ↔ jAr (dC, dI) (ca 1) (fun j z => 0 ≤ z.toInt ∧ z.toInt ≤ 65535) n a H) (hB288 : ∀ n G a H, B 288 n G a H ↔ jAr (dC, dI) (ca 1) (fun j z => 0 ≤ z.toInt ∧ z.toInt ≤ 160) n a H) (G0 : jT) (H0 : Heap) (r0 : Nat) (r1 : Nat) (a2 : Int32) (a3 : Int32) (a4 : Int32) (n1 : Nat) : Met l yX7_isWrittenIn (jw yX7_isWrittenIn cX7_isWrittenIn 11 (some .boolean)) ({ frames := 0, cells := 0, slots := 0, locals := 0 }) (va_Pc [.ref r0, .ref r1, .int a2, .int a3, .int a4] (fun U => U.heap = H0 ∧ jX B base G0 [] H0 ∧ jG dC dI ca base U ∧ G0 r1 = some (280, n1) ∧ G0 r0 = some (9, 0) ∧ jP (dC, dI) G0 H0 [] ∧ 0 ≤ a2.toInt ∧ a2.toInt ≤ 200000 ∧ n1 ≤ 100000 ∧ 0 ≤ a4.toInt ∧ a4.toInt ≤ 12)) (va_Qi (S := Unit) (fun r u => (r = 0 ∨ r = 1) ∧ (True)) (fun u t => jRt (dC, dI) B base G0 EX7_isWrittenInB H0 [] t.heap) (jA base)) 0 0 (jA base) := by
  refine Met.ofW (cc := cX7_isWrittenIn) (maxL := 11) (ret := (some .boolean)) (by decide) rfl ?_
  intro p e s m args below meth c s₁ Bd hml hv
  obtain ⟨rfl, hH0, hX, hG, hg_r1, hg_r0, hP0, hp0, hp1, hp2, hp3, hp4⟩ := hv
  have hK := hG.1
  have hx := Bd.exec
  have hb := Bd.bytes
  have hr := Bd.returns
  have hts := atoms_spec (ws := (jw yX7_isWrittenIn cX7_isWrittenIn 11 (some .boolean))) Bd.pre
  have htw : ∀ w ∈ jWl, w.before _ s = true := fun w h => hts w (List.mem_cons_of_mem _ h)
  have hown : s.vm.findClass RX7 = some m.cls := findClass_of_methodNamed Bd.named
  have hlocks := Bd.notSynchronized
  obtain ⟨Q, hQ⟩ : ∃ Q, Q = MQ below (va_Qi (S := Unit) (fun r u => (r = 0 ∨ r = 1) ∧ (True)) (fun u t => jRt (dC, dI) B base G0 EX7_isWrittenInB H0 [] t.heap) (jA base)) ([.ref r0, .ref r1, .int a2, .int a3, .int a4] : List Value).toArray s 0 0 (jA base) := ⟨_, rfl⟩
  rw [← hQ]
  have hl := lv_entry ([.ref r0, .ref r1, .int a2, .int a3, .int a4]) (n := 11) (Nat.le_of_ble_eq_true rfl)
  rw [lg_entry_eq]
  generalize (lg_sl ([.ref r0, .ref r1, .int a2, .int a3, .int a4]) ++ List.replicate (11 - (lg_sl ([.ref r0, .ref r1, .int a2, .int a3, .int a4])).length) Slot.unset).toArray = ls at hl ⊢
  have hl : lv_has ls 11 [(0, .ref r0), (1, .ref r1), (2, .int a2), (3, .int a3), (4, .int a4)] := hl
  generalize hR : (headSpec (jw yX7_isWrittenIn cX7_isWrittenIn 11 (some .boolean)) ({ frames := 0, cells := 0, slots := 0, locals := 0 })).room = R
  subst hH0
  have hh : jSt (dC, dI) B base G0 G0 EX7_isWrittenInB s.heap 0 0 [] [] [] s.heap [] := jSt.start hX hP0 jMc.nil jIs.nil
  clear hX hP0
  have hk0 : (0 : Int32).toInt = 0 := by decide
  have hk1 : (1 : Int32).toInt = 1 := by decide
  have hk7 : (7 : Int32).toInt = 7 := by decide
  have hk8 : (8 : Int32).toInt = 8 := by decide
  have hk9 : (9 : Int32).toInt = 9 := by decide
  have hk10 : (10 : Int32).toInt = 10 := by decide
  have hk15 : (15 : Int32).toInt = 15 := by decide
  have hly_8_0 := htw (u_lay RX6 TX6 0) (jWc_wsX60 _ (u_in_lay (by decide)))
  have hly_8_1 := htw (u_lay RX6 TX6 1) (jWc_wsX60 _ (u_in_lay (by decide)))
  have hly_8_3 := htw (u_lay RX6 TX6 3) (jWc_wsX60 _ (u_in_lay (by decide)))
  have hly_9_0 := htw (u_lay RX7 TX7 0) (jWc_wsX70 _ (u_in_lay (by decide)))
  have hly_9_3 := htw (u_lay RX7 TX7 3) (jWc_wsX70 _ (u_in_lay (by decide)))
  have hly_9_4 := htw (u_lay RX7 TX7 4) (jWc_wsX70 _ (u_in_lay (by decide)))
  have hlk_15 := (htw (.fieldLink RX7 15 "ProofServer$Printer" "boundNames" "[I") (jWr_9 _ (List.mem_of_getElem? (i := 8) rfl)))
  have hlk_21 := (htw (.fieldLink RX7 21 "ProofServer$Printer" "names" "LProofServer$Names;") (jWr_9 _ (List.mem_of_getElem? (i := 10) rfl)))
  have hlk_152 := (htw (.fieldLink RX7 152 "ProofServer$Names" "count" "I") (jWr_32 _ (List.mem_of_getElem? (i := 9) rfl)))
  have hlk_18 := (htw (.fieldLink RX7 18 "ProofServer$Printer" "boundMore" "[I") (jWr_9 _ (List.mem_of_getElem? (i := 9) rfl)))
  have hlk_155 := (htw (.fieldLink RX7 155 "ProofServer$Names" "stems" "[J") (jWr_32 _ (List.mem_of_getElem? (i := 10) rfl)))
  have hlk_159 := (htw (.fieldLink RX7 159 "ProofServer$Names" "primes" "[I") (jWr_32 _ (List.mem_of_getElem? (i := 11) rfl)))
  have hrg_a2 := jb_rng a2
  have hrg_a3 := jb_rng a3
  have hrg_a4 := jb_rng a4
  refine lv_aload_n hx hb dX7_isWrittenIn_0 rfl (lv_at hl 0 rfl) ?_
  obtain ⟨v_1, hv_1, hh_2⟩ := hh.pin (C := RX7) (T := TX7) (N := 5) hB9 rfl (by decide) hg_r0 (i := 3) (by decide) rfl
  clear hh
  obtain ⟨boundNames_3, rfl, hg_boundNames_3⟩ := hv_1
  refine j7_read hx hb hown hK (C := RX7) (T := TX7) (N := 5) rfl hly_9_3 hlk_15 (hh_2.at 0 rfl) dX7_isWrittenIn_1 ?_
  refine lv_iload hx hb dX7_isWrittenIn_4 (lv_at hl 4 rfl) ?_
  refine j7_iald hx hb hK hh_2 hB287 1 rfl (by decide) hg_boundNames_3 (x := a4.toInt) (rfl) (by omega) dX7_isWrittenIn_6 (fun z_4 (hz_4 : 0 ≤ z_4.toInt ∧ z_4.toInt ≤ 65535) => ?_)
  refine lv_istore (lv' := [(5, .int z_4), (0, .ref r0), (1, .ref r1), (2, .int a2), (3, .int a3), (4, .int a4)]) hx hb dX7_isWrittenIn_7 hl (by decide) rfl (fun ls hl => ?_)
  refine lv_iload_n hx hb dX7_isWrittenIn_9 rfl (lv_at hl 3 rfl) ?_
  refine lv_istore (lv' := [(6, .int a2), (5, .int z_4), (0, .ref r0), (1, .ref r1), (2, .int a2), (3, .int a3), (4, .int a4)]) hx hb dX7_isWrittenIn_10 hl (by decide) rfl (fun ls hl => ?_)
  have L12 : ∀ (N : Nat) (v6_5 : Int32) (H_5 : Heap) (locs_5 : List Loc), jSt (dC, dI) B base G0 G0 EX7_isWrittenInB s.heap 0 0 [(r0, 9, 3, .ref boundNames_3)] [] [] H_5 locs_5 → (0 ≤ v6_5.toInt ∧ v6_5.toInt ≤ 200000) → (((n1 - v6_5.toInt).toNat : Int) : Int) < N → ∀ ls : Array Slot, lv_has ls 11 [(0, .ref r0), (1, .ref r1), (2, .int a2), (3, .int a3), (4, .int a4), (5, .int z_4), (6, .int v6_5)] → W p l e R s m ([.ref r0, .ref r1, .int a2, .int a3, .int a4] : List Value).toArray below meth c H_5 locs_5 0 0 Q (F0 m 12 ls []) := by
    intro N
    induction N with
    | zero => intro v6_5 H_5 locs_5 hh_5  hi_5 hm; exact absurd hm (by omega)
    | succ N L12 =>
      intro v6_5 H_5 locs_5 hh_5  hi_5 hm_5 ls hl
      obtain ⟨hi_5_0, hi_5_1⟩ := hi_5
      refine lv_iload hx hb dX7_isWrittenIn_12 (lv_at hl 6 rfl) ?_
      refine lv_iload_n hx hb dX7_isWrittenIn_14 rfl (lv_at hl 3 rfl) ?_
      refine lv_icmp_ge (tgt := 204) hx hb dX7_isWrittenIn_15 (by decide) (fun c_6 => ?_) (fun c_6 => ?_)
      · skip
        have c_6' : v6_5.toInt ≥ a3.toInt := jb_ge (rfl) (rfl) c_6
        refine lv_iconst (v := 0) hx hb dX7_isWrittenIn_204 (by decide) ?_
        rw [hQ]
        exact W.zret (v := 0) hx hb hr (jb_nz (Or.inl rfl)) (fun t ht hW => ⟨⟨0, (), rfl, ⟨(Or.inl rfl), trivial⟩, hh_5.rt (M1 := []) [] rfl ht⟩, by rw [ht]; try exact hh_5.1.1, fun q h9 hq => by rw [ht]; try exact hh_5.1.2.1 q h9 hq⟩) hh_5.1.2.2 dX7_isWrittenIn_205
      · skip
        have c_6' : v6_5.toInt < a3.toInt := jb_ge_n (rfl) (rfl) c_6
        refine lv_iload hx hb dX7_isWrittenIn_18 (lv_at hl 6 rfl) ?_
        refine lv_aload_n hx hb dX7_isWrittenIn_20 rfl (lv_at hl 1 rfl) ?_
        refine j7_len hx hb hK hh_5 hB280 1 rfl (by decide) hg_r1 (by omega) dX7_isWrittenIn_21 (fun z_7 hz_7 => ?_)
        refine lv_icmp_ge (tgt := 204) hx hb dX7_isWrittenIn_22 (by decide) (fun c_8 => ?_) (fun c_8 => ?_)
        · skip
          have c_8' : v6_5.toInt ≥ z_7.toInt := jb_ge (rfl) (rfl) c_8
          refine lv_iconst (v := 0) hx hb dX7_isWrittenIn_204 (by decide) ?_
          rw [hQ]
          exact W.zret (v := 0) hx hb hr (jb_nz (Or.inl rfl)) (fun t ht hW => ⟨⟨0, (), rfl, ⟨(Or.inl rfl), trivial⟩, hh_5.rt (M1 := []) [] rfl ht⟩, by rw [ht]; try exact hh_5.1.1, fun q h9 hq => by rw [ht]; try exact hh_5.1.2.1 q h9 hq⟩) hh_5.1.2.2 dX7_isWrittenIn_205
        · skip
          have c_8' : v6_5.toInt < z_7.toInt := jb_ge_n (rfl) (rfl) c_8
          refine lv_iload hx hb dX7_isWrittenIn_25 (lv_at hl 5 rfl) ?_
          refine lv_aload_n hx hb dX7_isWrittenIn_27 rfl (lv_at hl 0 rfl) ?_
          obtain ⟨v_9, hv_9, hh_10⟩ := hh_5.pin (C := RX7) (T := TX7) (N := 5) hB9 rfl (by decide) hg_r0 (i := 0) (by decide) rfl
          clear hh_5
          obtain ⟨names_11, rfl, hg_names_11⟩ := hv_9
          refine j7_read hx hb hown hK (C := RX7) (T := TX7) (N := 5) rfl hly_9_0 hlk_21 (hh_10.at 0 rfl) dX7_isWrittenIn_28 ?_
          obtain ⟨v_12, hv_12, hh_13⟩ := hh_10.pin (C := RX6) (T := TX6) (N := 4) hB8 rfl (by decide) hg_names_11 (i := 3) (by decide) rfl
          clear hh_10
          obtain ⟨count_14, rfl, hlocount_14, hhicount_14⟩ := hv_12
          refine j7_read hx hb hown hK (C := RX6) (T := TX6) (N := 4) rfl hly_8_3 hlk_152 (hh_13.at 0 rfl) dX7_isWrittenIn_31 ?_
          refine lv_icmp_ge (tgt := 204) hx hb dX7_isWrittenIn_34 (by decide) (fun c_15 => ?_) (fun c_15 => ?_)
          · skip
            have c_15' : z_4.toInt ≥ count_14.toInt := jb_ge (rfl) (rfl) c_15
            refine lv_iconst (v := 0) hx hb dX7_isWrittenIn_204 (by decide) ?_
            rw [hQ]
            exact W.zret (v := 0) hx hb hr (jb_nz (Or.inl rfl)) (fun t ht hW => ⟨⟨0, (), rfl, ⟨(Or.inl rfl), trivial⟩, hh_13.rt (M1 := []) [] rfl ht⟩, by rw [ht]; try exact hh_13.1.1, fun q h9 hq => by rw [ht]; try exact hh_13.1.2.1 q h9 hq⟩) hh_13.1.2.2 dX7_isWrittenIn_205
          · skip
            have c_15' : z_4.toInt < count_14.toInt := jb_ge_n (rfl) (rfl) c_15
            obtain ⟨f_l1_16, hh_16⟩ := hh_13.cpin hB280 (by decide) (by decide) hg_r1
            clear hh_13
            refine lv_aload_n hx hb dX7_isWrittenIn_37 rfl (lv_at hl 1 rfl) ?_
            refine lv_iload hx hb dX7_isWrittenIn_38 (lv_at hl 6 rfl) ?_
            refine j7_ialdM hx hb hK hh_16 hB280 1 rfl (by decide) hg_r1 (x := v6_5.toInt) (rfl) (by omega) (j := 0) rfl dX7_isWrittenIn_40 (fun z_17 ez_17 (hz_17 : -1 ≤ z_17.toInt) => ?_)
            have hqz_17 : z_17.toInt = jSo f_l1_16 (v6_5.toInt) := by unfold jSo; rw [ez_17]
            refine lv_bipush (v := 15) hx hb dX7_isWrittenIn_41 (by decide) ?_
            refine lv_iand hx hb dX7_isWrittenIn_43 ?_
            refine lv_topi (fun z_18 ez_18 => ?_)
            have hz_18 : 0 ≤ z_18.toInt ∧ z_18.toInt ≤ 15 := by rw [ez_18]; exact jb_and z_17 (m := 15) (k := 4) (by decide) (by decide)
            have hbz_18 : z_18.toInt = z_17.toInt % 16 := by rw [ez_18, jb_and15]
            refine lv_istore (lv' := [(7, .int z_18), (0, .ref r0), (1, .ref r1), (2, .int a2), (3, .int a3), (4, .int a4), (5, .int z_4), (6, .int v6_5)]) hx hb dX7_isWrittenIn_44 hl (by decide) rfl (fun ls hl => ?_)
            refine lv_aload_n hx hb dX7_isWrittenIn_46 rfl (lv_at hl 2 rfl) ?_
            refine lv_iload hx hb dX7_isWrittenIn_47 (lv_at hl 7 rfl) ?_
            refine j7_ialdM hx hb hK hh_16 hB280 1 rfl (by decide) hg_r1 (x := v6_5.toInt) (rfl) (by omega) (j := 0) rfl dX7_isWrittenIn_49 (fun z_19 ez_19 (hz_19 : -1 ≤ z_19.toInt) => ?_)
            have hqz_19 : z_19.toInt = jSo f_l1_16 (v6_5.toInt) := by unfold jSo; rw [ez_19]
            refine lv_bipush (v := 15) hx hb dX7_isWrittenIn_50 (by decide) ?_
            refine lv_ishr hx hb dX7_isWrittenIn_52 ?_
            refine lv_topi (fun z_20 ez_20 => ?_)
            have hz_20 : z_20.toInt = z_19.toInt / 2 ^ 15 := by rw [ez_20]; exact jb_ishr 15 (rfl) (by decide)
            refine lv_istore (lv' := [(8, .int z_20), (7, .int z_18), (0, .ref r0), (1, .ref r1), (2, .int a2), (3, .int a3), (4, .int a4), (5, .int z_4), (6, .int v6_5)]) hx hb dX7_isWrittenIn_53 hl (by decide) rfl (fun ls hl => ?_)
            refine lv_iconst (v := 0) hx hb dX7_isWrittenIn_55 (by decide) ?_
            refine lv_istore (lv' := [(9, .int 0), (8, .int z_20), (7, .int z_18), (0, .ref r0), (1, .ref r1), (2, .int a2), (3, .int a3), (4, .int a4), (5, .int z_4), (6, .int v6_5)]) hx hb dX7_isWrittenIn_56 hl (by decide) rfl (fun ls hl => ?_)
            refine lv_iload hx hb dX7_isWrittenIn_58 (lv_at hl 2 rfl) ?_
            refine lv_bipush (v := 7) hx hb dX7_isWrittenIn_60 (by decide) ?_
            have C84 : ∀ (w0_21 : Int32) (H_21 : Heap) (locs_21 : List Loc), jSt (dC, dI) B base G0 G0 EX7_isWrittenInB s.heap 0 0 [(names_11, 8, 3, .int count_14), (r0, 9, 0, .ref names_11), (r0, 9, 3, .ref boundNames_3)] [(r1, 280, n1, ca 1, f_l1_16)] [] H_21 locs_21 → (w0_21 = 0 ∨ w0_21 = 1) → (w0_21.toInt = 0 ∨ (7 ≤ z_18.toInt ∧ z_18.toInt ≤ 9)) → ∀ ls : Array Slot, lv_has ls 11 [(0, .ref r0), (1, .ref r1), (2, .int a2), (3, .int a3), (4, .int a4), (5, .int z_4), (6, .int v6_5), (7, .int z_18), (8, .int z_20), (9, .int 0)] → W p l e R s m ([.ref r0, .ref r1, .int a2, .int a3, .int a4] : List Value).toArray below meth c H_21 locs_21 0 0 Q (F0 m 84 ls [.int w0_21]) := by
              intro w0_21 H_21 locs_21 hh_21 hb_w0_21 hi_21 ls hl
              have hb_w0_21' := jb_01 hb_w0_21
              refine lv_istore (lv' := [(10, .int w0_21), (0, .ref r0), (1, .ref r1), (2, .int a2), (3, .int a3), (4, .int a4), (5, .int z_4), (6, .int v6_5), (7, .int z_18), (8, .int z_20), (9, .int 0)]) hx hb dX7_isWrittenIn_84 hl (by decide) rfl (fun ls hl => ?_)
              refine lv_iload hx hb dX7_isWrittenIn_86 (lv_at hl 8 rfl) ?_
              refine lv_bipush (v := 10) hx hb dX7_isWrittenIn_88 (by decide) ?_
              have C121 : ∀ (v8_22 : Int32) (v9_22 : Int32) (v10_22 : Int32) (H_22 : Heap) (locs_22 : List Loc), jSt (dC, dI) B base G0 G0 EX7_isWrittenInB s.heap 0 0 [(names_11, 8, 3, .int count_14), (r0, 9, 0, .ref names_11), (r0, 9, 3, .ref boundNames_3)] [(r1, 280, n1, ca 1, f_l1_16)] [] H_22 locs_22 → (v10_22 = 0 ∨ v10_22 = 1) → (0 ≤ v8_22.toInt ∨ v10_22.toInt = 0) → ∀ ls : Array Slot, lv_has ls 11 [(0, .ref r0), (1, .ref r1), (2, .int a2), (3, .int a3), (4, .int a4), (5, .int z_4), (6, .int v6_5), (7, .int z_18), (8, .int v8_22), (9, .int v9_22), (10, .int v10_22)] → W p l e R s m ([.ref r0, .ref r1, .int a2, .int a3, .int a4] : List Value).toArray below meth c H_22 locs_22 0 0 Q (F0 m 121 ls []) := by
                intro v8_22 v9_22 v10_22 H_22 locs_22 hh_22 hb_v10_22 hi_22 ls hl
                have hb_v10_22' := jb_01 hb_v10_22
                refine lv_iload hx hb dX7_isWrittenIn_121 (lv_at hl 10 rfl) ?_
                refine lv_if_eq (tgt := 198) hx hb dX7_isWrittenIn_123 (by decide) (fun c_23 => ?_) (fun c_23 => ?_)
                · skip
                  have c_23' : v10_22.toInt = 0 := jb_eq (rfl) ((by decide)) c_23
                  obtain ⟨z_24, ez_24⟩ : ∃ y : Int32, y = v6_5 + 1 := ⟨_, rfl⟩
                  refine lv_iinc (v := z_24) (lv' := [(6, .int z_24), (0, .ref r0), (1, .ref r1), (2, .int a2), (3, .int a3), (4, .int a4), (5, .int z_4), (7, .int z_18), (8, .int v8_22), (9, .int v9_22), (10, .int v10_22)]) hx hb dX7_isWrittenIn_198 hl (k := 6) rfl (by rw [ez_24]; rfl) (by decide) rfl (fun ls hl => ?_)
                  have hz_24 : z_24.toInt = v6_5.toInt + 1 := by rw [ez_24]; exact jb_iadd2 (rfl) (by decide) (by omega)
                  refine lv_goto (tgt := 12) hx hb dX7_isWrittenIn_201 (by decide) ?_
                  exact L12 z_24 _ _ (hh_22.sub (L1 := [(r0, 9, 3, .ref boundNames_3)]) [2] rfl (M1 := []) [] rfl (I1 := []) [] rfl) (by first | omega | (refine ⟨?_, ?_⟩ <;> (first | omega | rfl | assumption | decide | exact Or.inl rfl | exact Or.inr rfl | (simp only; omega)))) (by omega) _ (lv_sub hl [1, 2, 3, 4, 5, 6, 0] rfl)
                · skip
                  have c_23' : v10_22.toInt ≠ 0 := jb_eq_n (rfl) ((by decide)) c_23
                  refine lv_iload hx hb dX7_isWrittenIn_126 (lv_at hl 8 rfl) ?_
                  refine lv_aload_n hx hb dX7_isWrittenIn_128 rfl (lv_at hl 0 rfl) ?_
                  refine j7_read hx hb hown hK (C := RX7) (T := TX7) (N := 5) rfl hly_9_0 hlk_21 (hh_22.at 1 rfl) dX7_isWrittenIn_129 ?_
                  refine j7_read hx hb hown hK (C := RX6) (T := TX6) (N := 4) rfl hly_8_3 hlk_152 (hh_22.at 0 rfl) dX7_isWrittenIn_132 ?_
                  refine lv_icmp_ge (tgt := 198) hx hb dX7_isWrittenIn_135 (by decide) (fun c_25 => ?_) (fun c_25 => ?_)
                  · skip
                    have c_25' : v8_22.toInt ≥ count_14.toInt := jb_ge (rfl) (rfl) c_25
                    obtain ⟨z_26, ez_26⟩ : ∃ y : Int32, y = v6_5 + 1 := ⟨_, rfl⟩
                    refine lv_iinc (v := z_26) (lv' := [(6, .int z_26), (0, .ref r0), (1, .ref r1), (2, .int a2), (3, .int a3), (4, .int a4), (5, .int z_4), (7, .int z_18), (8, .int v8_22), (9, .int v9_22), (10, .int v10_22)]) hx hb dX7_isWrittenIn_198 hl (k := 6) rfl (by rw [ez_26]; rfl) (by decide) rfl (fun ls hl => ?_)
                    have hz_26 : z_26.toInt = v6_5.toInt + 1 := by rw [ez_26]; exact jb_iadd2 (rfl) (by decide) (by omega)
                    refine lv_goto (tgt := 12) hx hb dX7_isWrittenIn_201 (by decide) ?_
                    exact L12 z_26 _ _ (hh_22.sub (L1 := [(r0, 9, 3, .ref boundNames_3)]) [2] rfl (M1 := []) [] rfl (I1 := []) [] rfl) (by first | omega | (refine ⟨?_, ?_⟩ <;> (first | omega | rfl | assumption | decide | exact Or.inl rfl | exact Or.inr rfl | (simp only; omega)))) (by omega) _ (lv_sub hl [1, 2, 3, 4, 5, 6, 0] rfl)
                  · skip
                    have c_25' : v8_22.toInt < count_14.toInt := jb_ge_n (rfl) (rfl) c_25
                    refine lv_aload_n hx hb dX7_isWrittenIn_138 rfl (lv_at hl 0 rfl) ?_
                    refine j7_read hx hb hown hK (C := RX7) (T := TX7) (N := 5) rfl hly_9_0 hlk_21 (hh_22.at 1 rfl) dX7_isWrittenIn_139 ?_
                    obtain ⟨v_27, hv_27, hh_28⟩ := hh_22.pin (C := RX6) (T := TX6) (N := 4) hB8 rfl (by decide) hg_names_11 (i := 0) (by decide) rfl
                    clear hh_22
                    obtain ⟨stems_29, rfl, hg_stems_29⟩ := hv_27
                    refine j7_read hx hb hown hK (C := RX6) (T := TX6) (N := 4) rfl hly_8_0 hlk_155 (hh_28.at 0 rfl) dX7_isWrittenIn_142 ?_
                    refine lv_iload hx hb dX7_isWrittenIn_145 (lv_at hl 8 rfl) ?_
                    refine j7_lald hx hb hK hh_28 hB102 2 rfl (by decide) hg_stems_29 (x := v8_22.toInt) (rfl) (by omega) dX7_isWrittenIn_147 (fun z_30 => ?_)
                    refine lv_aload_n hx hb dX7_isWrittenIn_148 rfl (lv_at hl 0 rfl) ?_
                    refine j7_read hx hb hown hK (C := RX7) (T := TX7) (N := 5) rfl hly_9_0 hlk_21 (hh_28.at 2 rfl) dX7_isWrittenIn_149 ?_
                    refine j7_read hx hb hown hK (C := RX6) (T := TX6) (N := 4) rfl hly_8_0 hlk_155 (hh_28.at 0 rfl) dX7_isWrittenIn_152 ?_
                    refine lv_iload hx hb dX7_isWrittenIn_155 (lv_at hl 5 rfl) ?_
                    refine j7_lald hx hb hK hh_28 hB102 2 rfl (by decide) hg_stems_29 (x := z_4.toInt) (rfl) (by omega) dX7_isWrittenIn_157 (fun z_31 => ?_)
                    refine W.lcmp hx hb dX7_isWrittenIn_158 ?_
                    refine lv_topi (fun z_32 ez_32 => ?_)
                    have hz_32 := jb_lcmp ez_32
                    refine lv_if_ne (tgt := 198) hx hb dX7_isWrittenIn_159 (by decide) (fun c_33 => ?_) (fun c_33 => ?_)
                    · skip
                      have c_33' : z_32.toInt ≠ 0 := jb_ne (rfl) ((by decide)) c_33
                      obtain ⟨z_34, ez_34⟩ : ∃ y : Int32, y = v6_5 + 1 := ⟨_, rfl⟩
                      refine lv_iinc (v := z_34) (lv' := [(6, .int z_34), (0, .ref r0), (1, .ref r1), (2, .int a2), (3, .int a3), (4, .int a4), (5, .int z_4), (7, .int z_18), (8, .int v8_22), (9, .int v9_22), (10, .int v10_22)]) hx hb dX7_isWrittenIn_198 hl (k := 6) rfl (by rw [ez_34]; rfl) (by decide) rfl (fun ls hl => ?_)
                      have hz_34 : z_34.toInt = v6_5.toInt + 1 := by rw [ez_34]; exact jb_iadd2 (rfl) (by decide) (by omega)
                      refine lv_goto (tgt := 12) hx hb dX7_isWrittenIn_201 (by decide) ?_
                      exact L12 z_34 _ _ (hh_28.sub (L1 := [(r0, 9, 3, .ref boundNames_3)]) [3] rfl (M1 := []) [] rfl (I1 := []) [] rfl) (by first | omega | (refine ⟨?_, ?_⟩ <;> (first | omega | rfl | assumption | decide | exact Or.inl rfl | exact Or.inr rfl | (simp only; omega)))) (by omega) _ (lv_sub hl [1, 2, 3, 4, 5, 6, 0] rfl)
                    · skip
                      have c_33' : z_32.toInt = 0 := jb_ne_n (rfl) ((by decide)) c_33
                      refine lv_aload_n hx hb dX7_isWrittenIn_162 rfl (lv_at hl 0 rfl) ?_
                      refine j7_read hx hb hown hK (C := RX7) (T := TX7) (N := 5) rfl hly_9_0 hlk_21 (hh_28.at 2 rfl) dX7_isWrittenIn_163 ?_
                      obtain ⟨v_35, hv_35, hh_36⟩ := hh_28.pin (C := RX6) (T := TX6) (N := 4) hB8 rfl (by decide) hg_names_11 (i := 1) (by decide) rfl
                      clear hh_28
                      obtain ⟨primes_37, rfl, hg_primes_37⟩ := hv_35
                      refine j7_read hx hb hown hK (C := RX6) (T := TX6) (N := 4) rfl hly_8_1 hlk_159 (hh_36.at 0 rfl) dX7_isWrittenIn_166 ?_
                      refine lv_iload hx hb dX7_isWrittenIn_169 (lv_at hl 8 rfl) ?_
                      refine j7_iald hx hb hK hh_36 hB132 1 rfl (by decide) hg_primes_37 (x := v8_22.toInt) (rfl) (by omega) dX7_isWrittenIn_171 (fun z_38 (hz_38 : 0 ≤ z_38.toInt ∧ z_38.toInt ≤ 10) => ?_)
                      refine lv_iload hx hb dX7_isWrittenIn_172 (lv_at hl 9 rfl) ?_
                      refine lv_iadd hx hb dX7_isWrittenIn_174 ?_
                      refine lv_topi (fun z_39 ez_39 => ?_)
                      refine lv_aload_n hx hb dX7_isWrittenIn_175 rfl (lv_at hl 0 rfl) ?_
                      refine j7_read hx hb hown hK (C := RX7) (T := TX7) (N := 5) rfl hly_9_0 hlk_21 (hh_36.at 3 rfl) dX7_isWrittenIn_176 ?_
                      refine j7_read hx hb hown hK (C := RX6) (T := TX6) (N := 4) rfl hly_8_1 hlk_159 (hh_36.at 0 rfl) dX7_isWrittenIn_179 ?_
                      refine lv_iload hx hb dX7_isWrittenIn_182 (lv_at hl 5 rfl) ?_
                      refine j7_iald hx hb hK hh_36 hB132 1 rfl (by decide) hg_primes_37 (x := z_4.toInt) (rfl) (by omega) dX7_isWrittenIn_184 (fun z_40 (hz_40 : 0 ≤ z_40.toInt ∧ z_40.toInt ≤ 10) => ?_)
                      refine lv_aload_n hx hb dX7_isWrittenIn_185 rfl (lv_at hl 0 rfl) ?_
                      obtain ⟨v_41, hv_41, hh_42⟩ := hh_36.pin (C := RX7) (T := TX7) (N := 5) hB9 rfl (by decide) hg_r0 (i := 4) (by decide) rfl
                      clear hh_36
                      obtain ⟨boundMore_43, rfl, hg_boundMore_43⟩ := hv_41
                      refine j7_read hx hb hown hK (C := RX7) (T := TX7) (N := 5) rfl hly_9_4 hlk_18 (hh_42.at 0 rfl) dX7_isWrittenIn_186 ?_
                      refine lv_iload hx hb dX7_isWrittenIn_189 (lv_at hl 4 rfl) ?_
                      refine j7_iald hx hb hK hh_42 hB288 1 rfl (by decide) hg_boundMore_43 (x := a4.toInt) (rfl) (by omega) dX7_isWrittenIn_191 (fun z_44 (hz_44 : 0 ≤ z_44.toInt ∧ z_44.toInt ≤ 160) => ?_)
                      refine lv_iadd hx hb dX7_isWrittenIn_192 ?_
                      refine lv_topi (fun z_45 ez_45 => ?_)
                      refine lv_icmp_ne (tgt := 198) hx hb dX7_isWrittenIn_193 (by decide) (fun c_46 => ?_) (fun c_46 => ?_)
                      · skip
                        have c_46' : z_39.toInt ≠ z_45.toInt := jb_ne (rfl) (rfl) c_46
                        obtain ⟨z_47, ez_47⟩ : ∃ y : Int32, y = v6_5 + 1 := ⟨_, rfl⟩
                        refine lv_iinc (v := z_47) (lv' := [(6, .int z_47), (0, .ref r0), (1, .ref r1), (2, .int a2), (3, .int a3), (4, .int a4), (5, .int z_4), (7, .int z_18), (8, .int v8_22), (9, .int v9_22), (10, .int v10_22)]) hx hb dX7_isWrittenIn_198 hl (k := 6) rfl (by rw [ez_47]; rfl) (by decide) rfl (fun ls hl => ?_)
                        have hz_47 : z_47.toInt = v6_5.toInt + 1 := by rw [ez_47]; exact jb_iadd2 (rfl) (by decide) (by omega)
                        refine lv_goto (tgt := 12) hx hb dX7_isWrittenIn_201 (by decide) ?_
                        exact L12 z_47 _ _ (hh_42.sub (L1 := [(r0, 9, 3, .ref boundNames_3)]) [5] rfl (M1 := []) [] rfl (I1 := []) [] rfl) (by first | omega | (refine ⟨?_, ?_⟩ <;> (first | omega | rfl | assumption | decide | exact Or.inl rfl | exact Or.inr rfl | (simp only; omega)))) (by omega) _ (lv_sub hl [1, 2, 3, 4, 5, 6, 0] rfl)
                      · skip
                        have c_46' : z_39.toInt = z_45.toInt := jb_ne_n (rfl) (rfl) c_46
                        refine lv_iconst (v := 1) hx hb dX7_isWrittenIn_196 (by decide) ?_
                        rw [hQ]
                        exact W.zret (v := 1) hx hb hr (jb_nz (Or.inr rfl)) (fun t ht hW => ⟨⟨1, (), rfl, ⟨(Or.inr rfl), trivial⟩, hh_42.rt (M1 := []) [] rfl ht⟩, by rw [ht]; try exact hh_42.1.1, fun q h9 hq => by rw [ht]; try exact hh_42.1.2.1 q h9 hq⟩) hh_42.1.2.2 dX7_isWrittenIn_197
              refine lv_icmp_ne (tgt := 121) hx hb dX7_isWrittenIn_90 (by decide) (fun c_48 => ?_) (fun c_48 => ?_)
              · skip
                have c_48' : z_18.toInt ≠ 10 := jb_ne (rfl) ((by decide)) c_48
                exact C121 z_20 0 w0_21 _ _ hh_21 (hb_w0_21) (by first | omega | rfl | assumption | decide | exact Or.inl rfl | exact Or.inr rfl | (simp only; omega)) _ (lv_sub hl [1, 2, 3, 4, 5, 6, 7, 8, 9, 10, 0] rfl)
              · skip
                have c_48' : z_18.toInt = 10 := jb_ne_n (rfl) ((by decide)) c_48
                refine lv_iload hx hb dX7_isWrittenIn_93 (lv_at hl 9 rfl) ?_
                refine lv_iload hx hb dX7_isWrittenIn_95 (lv_at hl 5 rfl) ?_
                refine lv_icmp_ge (tgt := 121) hx hb dX7_isWrittenIn_97 (by decide) (fun c_49 => ?_) (fun c_49 => ?_)
                · skip
                  have c_49' : z_20.toInt ≥ a4.toInt := jb_ge (rfl) (rfl) c_49
                  exact C121 z_20 0 w0_21 _ _ hh_21 (hb_w0_21) (by first | omega | rfl | assumption | decide | exact Or.inl rfl | exact Or.inr rfl | (simp only; omega)) _ (lv_sub hl [1, 2, 3, 4, 5, 6, 7, 8, 9, 10, 0] rfl)
                · skip
                  have c_49' : z_20.toInt < a4.toInt := jb_ge_n (rfl) (rfl) c_49
                  refine lv_iconst (v := 1) hx hb dX7_isWrittenIn_100 (by decide) ?_
                  refine lv_istore (lv' := [(10, .int 1), (0, .ref r0), (1, .ref r1), (2, .int a2), (3, .int a3), (4, .int a4), (5, .int z_4), (6, .int v6_5), (7, .int z_18), (8, .int z_20), (9, .int 0)]) hx hb dX7_isWrittenIn_101 hl (by decide) rfl (fun ls hl => ?_)
                  refine lv_aload_n hx hb dX7_isWrittenIn_103 rfl (lv_at hl 1 rfl) ?_
                  obtain ⟨v_50, hv_50, hh_51⟩ := hh_21.pin (C := RX7) (T := TX7) (N := 5) hB9 rfl (by decide) hg_r0 (i := 4) (by decide) rfl
                  clear hh_21
                  obtain ⟨boundMore_52, rfl, hg_boundMore_52⟩ := hv_50
                  refine j7_read hx hb hown hK (C := RX7) (T := TX7) (N := 5) rfl hly_9_4 hlk_18 (hh_51.at 0 rfl) dX7_isWrittenIn_104 ?_
                  refine lv_iload hx hb dX7_isWrittenIn_107 (lv_at hl 9 rfl) ?_
                  refine j7_iald hx hb hK hh_51 hB288 1 rfl (by decide) hg_boundMore_52 (x := z_20.toInt) (rfl) (by omega) dX7_isWrittenIn_109 (fun z_53 (hz_53 : 0 ≤ z_53.toInt ∧ z_53.toInt ≤ 160) => ?_)
                  refine lv_istore (lv' := [(9, .int z_53), (10, .int 1), (0, .ref r0), (1, .ref r1), (2, .int a2), (3, .int a3), (4, .int a4), (5, .int z_4), (6, .int v6_5), (7, .int z_18), (8, .int z_20)]) hx hb dX7_isWrittenIn_110 hl (by decide) rfl (fun ls hl => ?_)
                  refine lv_aload_n hx hb dX7_isWrittenIn_112 rfl (lv_at hl 2 rfl) ?_
                  refine j7_read hx hb hown hK (C := RX7) (T := TX7) (N := 5) rfl hly_9_3 hlk_15 (hh_51.at 3 rfl) dX7_isWrittenIn_113 ?_
                  refine lv_iload hx hb dX7_isWrittenIn_116 (lv_at hl 10 rfl) ?_
                  refine j7_iald hx hb hK hh_51 hB287 1 rfl (by decide) hg_boundNames_3 (x := z_20.toInt) (rfl) (by omega) dX7_isWrittenIn_118 (fun z_54 (hz_54 : 0 ≤ z_54.toInt ∧ z_54.toInt ≤ 65535) => ?_)
                  refine lv_istore (lv' := [(8, .int z_54), (9, .int z_53), (10, .int 1), (0, .ref r0), (1, .ref r1), (2, .int a2), (3, .int a3), (4, .int a4), (5, .int z_4), (6, .int v6_5), (7, .int z_18)]) hx hb dX7_isWrittenIn_119 hl (by decide) rfl (fun ls hl => ?_)
                  exact C121 z_54 z_53 1 _ _ (hh_51.sub (L1 := [(names_11, 8, 3, .int count_14), (r0, 9, 0, .ref names_11), (r0, 9, 3, .ref boundNames_3)]) [1, 2, 3] rfl (M1 := [(r1, 280, n1, ca 1, f_l1_16)]) [0] rfl (I1 := []) [] rfl) (Or.inr rfl) (by first | omega | rfl | assumption | decide | exact Or.inl rfl | exact Or.inr rfl | (simp only; omega)) _ (lv_sub hl [3, 4, 5, 6, 7, 8, 9, 10, 0, 1, 2] rfl)
            have C79 : ∀ (H_55 : Heap) (locs_55 : List Loc), jSt (dC, dI) B base G0 G0 EX7_isWrittenInB s.heap 0 0 [(names_11, 8, 3, .int count_14), (r0, 9, 0, .ref names_11), (r0, 9, 3, .ref boundNames_3)] [(r1, 280, n1, ca 1, f_l1_16)] [] H_55 locs_55 → (7 ≤ z_18.toInt ∧ z_18.toInt ≤ 9) → ∀ ls : Array Slot, lv_has ls 11 [(0, .ref r0), (1, .ref r1), (2, .int a2), (3, .int a3), (4, .int a4), (5, .int z_4), (6, .int v6_5), (7, .int z_18), (8, .int z_20), (9, .int 0)] → W p l e R s m ([.ref r0, .ref r1, .int a2, .int a3, .int a4] : List Value).toArray below meth c H_55 locs_55 0 0 Q (F0 m 79 ls []) := by
              intro  H_55 locs_55 hh_55  hi_55 ls hl
              obtain ⟨hi_55_0, hi_55_1⟩ := hi_55
              refine lv_iconst (v := 1) hx hb dX7_isWrittenIn_79 (by decide) ?_
              refine lv_goto (tgt := 84) hx hb dX7_isWrittenIn_80 (by decide) ?_
              exact C84 1 _ _ hh_55 (Or.inr rfl) (by first | omega | rfl | assumption | decide | exact Or.inl rfl | exact Or.inr rfl | (simp only; omega)) _ (lv_sub hl [0, 1, 2, 3, 4, 5, 6, 7, 8, 9] rfl)
            refine lv_icmp_eq (tgt := 79) hx hb dX7_isWrittenIn_62 (by decide) (fun c_56 => ?_) (fun c_56 => ?_)
            · skip
              have c_56' : z_18.toInt = 7 := jb_eq (rfl) ((by decide)) c_56
              exact C79  _ _ hh_16 (by first | omega | (refine ⟨?_, ?_⟩ <;> (first | omega | rfl | assumption | decide | exact Or.inl rfl | exact Or.inr rfl | (simp only; omega)))) _ (lv_sub hl [3, 4, 5, 6, 7, 8, 9, 2, 1, 0] rfl)
            · skip
              have c_56' : z_18.toInt ≠ 7 := jb_eq_n (rfl) ((by decide)) c_56
              refine lv_iload hx hb dX7_isWrittenIn_65 (lv_at hl 2 rfl) ?_
              refine lv_bipush (v := 8) hx hb dX7_isWrittenIn_67 (by decide) ?_
              refine lv_icmp_eq (tgt := 79) hx hb dX7_isWrittenIn_69 (by decide) (fun c_57 => ?_) (fun c_57 => ?_)
              · skip
                have c_57' : z_18.toInt = 8 := jb_eq (rfl) ((by decide)) c_57
                exact C79  _ _ hh_16 (by first | omega | (refine ⟨?_, ?_⟩ <;> (first | omega | rfl | assumption | decide | exact Or.inl rfl | exact Or.inr rfl | (simp only; omega)))) _ (lv_sub hl [3, 4, 5, 6, 7, 8, 9, 2, 1, 0] rfl)
              · skip
                have c_57' : z_18.toInt ≠ 8 := jb_eq_n (rfl) ((by decide)) c_57
                refine lv_iload hx hb dX7_isWrittenIn_72 (lv_at hl 2 rfl) ?_
                refine lv_bipush (v := 9) hx hb dX7_isWrittenIn_74 (by decide) ?_
                refine lv_icmp_ne (tgt := 83) hx hb dX7_isWrittenIn_76 (by decide) (fun c_58 => ?_) (fun c_58 => ?_)
                · skip
                  have c_58' : z_18.toInt ≠ 9 := jb_ne (rfl) ((by decide)) c_58
                  refine lv_iconst (v := 0) hx hb dX7_isWrittenIn_83 (by decide) ?_
                  exact C84 0 _ _ hh_16 (Or.inl rfl) (by first | omega | rfl | assumption | decide | exact Or.inl rfl | exact Or.inr rfl | (simp only; omega)) _ (lv_sub hl [3, 4, 5, 6, 7, 8, 9, 2, 1, 0] rfl)
                · skip
                  have c_58' : z_18.toInt = 9 := jb_ne_n (rfl) ((by decide)) c_58
                  exact C79  _ _ hh_16 (by first | omega | (refine ⟨?_, ?_⟩ <;> (first | omega | rfl | assumption | decide | exact Or.inl rfl | exact Or.inr rfl | (simp only; omega)))) _ (lv_sub hl [3, 4, 5, 6, 7, 8, 9, 2, 1, 0] rfl)
  exact L12 (((n1 - (a2 : Int32).toInt).toNat : Int) : Int).toNat.succ a2 _ _ hh_2 (by first | omega | (refine ⟨?_, ?_⟩ <;> (first | omega | rfl | assumption | decide | exact Or.inl rfl | exact Or.inr rfl | (simp only; omega)))) (by omega) _ (lv_sub hl [2, 3, 4, 5, 6, 1, 0] rfl)
set_option maxHeartbeats 4000000 in
set_option maxRecDepth 20000 in
theorem uX7_pushQuantifiedB (l : Launch) (dC : Nat → ClassId) (dI : Nat → Nat → Nat) (ca : Nat → ClassId) (base : Nat) (B : jF) (hB : jBok B) (hAp : jAp (dC, dI)) (hB8 : ∀ n G a H, B 8 n G a H ↔ jOb (dC, dI) 8 4 (F8 n G) a H) (hB9 : ∀ n G a H, B 9 n G a H ↔ jOb (dC, dI) 9 5 (F9b n G) a H) (hB102 : ∀ n G a H, B 102 n G a H ↔ jAl (dC, dI) (ca 2) n a H) (hB132 : ∀ n G a H, B 132 n G a H ↔ jAr (dC, dI) (ca 1) (fun j z => 0 ≤ z.toInt ∧ z.toInt ≤ 10) n a H) (hB280 : ∀ n G a H, B 280 n G a H ↔ jAr (dC, dI) (ca 1) (fun j z => -1 ≤ z.toInt) n a H) (hB286 : ∀ n G a H, B 286 n G a H ↔ jAr (dC, dI) (ca 1) (fun j z => (0 ≤ z.toInt ∨ z.toInt = -3)) n a H) (hB287 : ∀ n G a H, B 287 n G a H ↔ jAr (dC, dI) (ca 1) (fun j z => 0 ≤ z.toInt ∧ z.toInt ≤ 65535) n a H) (hB288 : ∀ n G a H, B 288 n G a H ↔ jAr (dC, dI) (ca 1) (fun j z => 0 ≤ z.toInt ∧ z.toInt ≤ 160) n a H) (G0 : jT) (H0 : Heap) (r0 : Nat) (r1 : Nat) (a2 : Int32) (a3 : Int32) (n1 : Nat) (ff : Nat → Int32) : Met l yX7_pushQuantified (jw yX7_pushQuantified cX7_pushQuantified 6 none) ({ frames := 1, cells := 0, slots := 0, locals := 30 }) (va_Pc [.ref r0, .ref r1, .int a2, .int a3] (fun U => U.heap = H0 ∧ jX B base G0 [] H0 ∧ jG dC dI ca base U ∧ G0 r1 = some (280, n1) ∧ G0 r0 = some (9, 0) ∧ jP (dC, dI) G0 H0 [] ∧ jMc (dC, dI) G0 H0 [(r1, 280, n1, ca 1, ff)] ∧ 0 ≤ a2.toInt ∧ a2.toInt < n1 ∧ n1 ≤ 100000 ∧ 0 ≤ a3.toInt ∧ 0 ≤ jSo ff a2.toInt)) (va_Qv (S := Unit) (fun u => True) (fun u t => jRt (dC, dI) B base G0 EX7_pushQuantifiedB H0 [] t.heap) (jA base)) 0 0 (jA base) := by
  refine Met.ofW (cc := cX7_pushQuantified) (maxL := 6) (ret := none) (by decide) rfl ?_
  intro p e s m args below meth c s₁ Bd hml hv
  obtain ⟨rfl, hH0, hX, hG, hg_r1, hg_r0, hP0, hM0, hp0, hp1, hp2, hp3, hp4⟩ := hv
  have hK := hG.1
  have hx := Bd.exec
  have hb := Bd.bytes
  have hr := Bd.returns
  have hts := atoms_spec (ws := (jw yX7_pushQuantified cX7_pushQuantified 6 none)) Bd.pre
  have htw : ∀ w ∈ jWl, w.before _ s = true := fun w h => hts w (List.mem_cons_of_mem _ h)
  have hown : s.vm.findClass RX7 = some m.cls := findClass_of_methodNamed Bd.named
  have hlocks := Bd.notSynchronized
  obtain ⟨Q, hQ⟩ : ∃ Q, Q = MQ below (va_Qv (S := Unit) (fun u => True) (fun u t => jRt (dC, dI) B base G0 EX7_pushQuantifiedB H0 [] t.heap) (jA base)) ([.ref r0, .ref r1, .int a2, .int a3] : List Value).toArray s 0 0 (jA base) := ⟨_, rfl⟩
  rw [← hQ]
  have hl := lv_entry ([.ref r0, .ref r1, .int a2, .int a3]) (n := 6) (Nat.le_of_ble_eq_true rfl)
  rw [lg_entry_eq]
  generalize (lg_sl ([.ref r0, .ref r1, .int a2, .int a3]) ++ List.replicate (6 - (lg_sl ([.ref r0, .ref r1, .int a2, .int a3])).length) Slot.unset).toArray = ls at hl ⊢
  have hl : lv_has ls 6 [(0, .ref r0), (1, .ref r1), (2, .int a2), (3, .int a3)] := hl
  generalize hR : (headSpec (jw yX7_pushQuantified cX7_pushQuantified 6 none) ({ frames := 1, cells := 0, slots := 0, locals := 30 })).room = R
  subst hH0
  have hh : jSt (dC, dI) B base G0 G0 EX7_pushQuantifiedB s.heap 0 0 [] [(r1, 280, n1, ca 1, ff)] [] s.heap [] := jSt.start hX hP0 hM0 jIs.nil
  clear hX hP0
  have hk0 : (0 : Int32).toInt = 0 := by decide
  have hk1 : (1 : Int32).toInt = 1 := by decide
  have hk2 : (2 : Int32).toInt = 2 := by decide
  have hk10 : (10 : Int32).toInt = 10 := by decide
  have hk15 : (15 : Int32).toInt = 15 := by decide
  have hk17 : (17 : Int32).toInt = 17 := by decide
  have hk18 : (18 : Int32).toInt = 18 := by decide
  have hk160 : (160 : Int32).toInt = 160 := by decide
  have hk256 : (256 : Int32).toInt = 256 := by decide
  have hly_9_3 := htw (u_lay RX7 TX7 3) (jWc_wsX70 _ (u_in_lay (by decide)))
  have hly_9_4 := htw (u_lay RX7 TX7 4) (jWc_wsX70 _ (u_in_lay (by decide)))
  have hlk_15 := (htw (.fieldLink RX7 15 "ProofServer$Printer" "boundNames" "[I") (jWr_9 _ (List.mem_of_getElem? (i := 8) rfl)))
  have hlk_18 := (htw (.fieldLink RX7 18 "ProofServer$Printer" "boundMore" "[I") (jWr_9 _ (List.mem_of_getElem? (i := 9) rfl)))
  have hrg_a2 := jb_rng a2
  have hrg_a3 := jb_rng a3
  refine lv_iload_n hx hb dX7_pushQuantified_0 rfl (lv_at hl 3 rfl) ?_
  refine lv_aload_n hx hb dX7_pushQuantified_1 rfl (lv_at hl 0 rfl) ?_
  obtain ⟨v_1, hv_1, hh_2⟩ := hh.pin (C := RX7) (T := TX7) (N := 5) hB9 rfl (by decide) hg_r0 (i := 3) (by decide) rfl
  clear hh
  obtain ⟨boundNames_3, rfl, hg_boundNames_3⟩ := hv_1
  refine j7_read hx hb hown hK (C := RX7) (T := TX7) (N := 5) rfl hly_9_3 hlk_15 (hh_2.at 0 rfl) dX7_pushQuantified_2 ?_
  refine j7_len hx hb hK hh_2 hB287 1 rfl (by decide) hg_boundNames_3 (by omega) dX7_pushQuantified_5 (fun z_4 hz_4 => ?_)
  refine lv_icmp_lt (tgt := 10) hx hb dX7_pushQuantified_6 (by decide) (fun c_5 => ?_) (fun c_5 => ?_)
  · skip
    have c_5' : a3.toInt < z_4.toInt := jb_lt (rfl) (rfl) c_5
    refine lv_aload_n hx hb dX7_pushQuantified_10 rfl (lv_at hl 1 rfl) ?_
    refine lv_iload_n hx hb dX7_pushQuantified_11 rfl (lv_at hl 2 rfl) ?_
    refine lv_aload_n hx hb dX7_pushQuantified_12 rfl (lv_at hl 1 rfl) ?_
    refine j7_len hx hb hK hh_2 hB280 1 rfl (by decide) hg_r1 (by omega) dX7_pushQuantified_13 (fun z_6 hz_6 => ?_)
    refine va_calli (A0 := jA base) (H0 := s.heap) (va_runSN (As := [.ref r1, .int a2, .int z_6]) (rest := []) ⟨hx, hb, hml, hown, hts⟩ (uX11_endOfB l dC dI ca base B hB hAp hB280 G0 s.heap r1 a2 z_6 n1) ⟨va_cnB 3 hts (jgW (jWr_32 _ (List.mem_of_getElem? (i := 4) rfl))) rfl rfl rfl (hG.2.2.1 RX7 144 yX11_endOf "ProofServer" (List.mem_of_getElem? (i := 994) (by decide +kernel))) (htw (.initialized RX11) (jWr_1 _ (List.mem_of_getElem? (i := 2) rfl))) (by decide +kernel) ⟨by rw [← hR]; exact Nat.le_of_ble_eq_true rfl, by rw [← hR]; exact Nat.le_of_ble_eq_true rfl⟩, htw (.static yX11_endOf) (jWr_32 _ (List.mem_of_getElem? (i := 3) rfl)), trivial⟩ ⟨fun a U g mk q => by obtain ⟨q0, q1, q2, qK, q10, q11, q12⟩ := q; exact ⟨q0, q1, q2, jG.calling g mk a qK, q10, q11, q12⟩, fun U hU hW => ⟨rfl, hU, hh_2.2.1, hG.step hW hU hh_2.1, hg_r1, jP.nil, by first | omega | (refine ⟨?_, ?_, ?_⟩ <;> (first | omega | rfl | assumption | decide | exact Or.inl rfl | exact Or.inr rfl | (simp only; omega)))⟩⟩ rfl rfl hl.1 rfl (lv_room (Nat.le_of_ble_eq_true rfl)) dX7_pushQuantified_14 ⟨Nat.zero_le _, Nat.zero_le _⟩) hh_2.1 (fun q _ h => h) (fun q h => h) (fun r_8 u_7 t_7 H_7 locs_7 ht_7 hvm_7 hr_8 hb_7 hz_7 hk_7 hS_7 => ?_)
    rw [ht_7] at hb_7
    obtain ⟨hb_71, hb_72, hb_73, hb_74, hb_75⟩ := hb_7
    have hh_7 : jSt (dC, dI) B base G0 G0 EX7_pushQuantifiedB s.heap 0 0 [(r0, 9, 3, .ref boundNames_3)] [(r1, 280, n1, ca 1, ff)] [] H_7 locs_7 := ((hh_2.call hb_71 hb_72 hb_73 hb_74 hS_7 rfl (L1 := [(r0, 9, 3, .ref boundNames_3)]) [0] rfl rfl (M1 := [(r1, 280, n1, ca 1, ff)]) [0] rfl rfl (I1 := []) [] rfl rfl).more hb_75)
    clear hh_2 ht_7 hvm_7 hz_7 hk_7 hS_7 hb_71 hb_72 hb_73 hb_74 hb_75
    obtain ⟨hr_8_0, hr_8_1⟩ := hr_8
    refine lv_istore (lv' := [(4, .int r_8), (0, .ref r0), (1, .ref r1), (2, .int a2), (3, .int a3)]) hx hb dX7_pushQuantified_17 hl (by decide) rfl (fun ls hl => ?_)
    refine lv_aload_n hx hb dX7_pushQuantified_19 rfl (lv_at hl 1 rfl) ?_
    refine j7_read hx hb hown hK (C := RX7) (T := TX7) (N := 5) rfl hly_9_3 hlk_15 (hh_7.at 0 rfl) dX7_pushQuantified_20 ?_
    refine lv_iload_n hx hb dX7_pushQuantified_23 rfl (lv_at hl 4 rfl) ?_
    refine lv_aload_n hx hb dX7_pushQuantified_24 rfl (lv_at hl 2 rfl) ?_
    refine lv_iload_n hx hb dX7_pushQuantified_25 rfl (lv_at hl 3 rfl) ?_
    refine j7_ialdM hx hb hK hh_7 hB280 1 rfl (by decide) hg_r1 (x := a2.toInt) (rfl) (by omega) (j := 0) rfl dX7_pushQuantified_26 (fun z_9 ez_9 (hz_9 : -1 ≤ z_9.toInt) => ?_)
    have hqz_9 : z_9.toInt = jSo ff (a2.toInt) := by unfold jSo; rw [ez_9]
    refine lv_bipush (v := 15) hx hb dX7_pushQuantified_27 (by decide) ?_
    refine lv_ishr hx hb dX7_pushQuantified_29 ?_
    refine lv_topi (fun z_10 ez_10 => ?_)
    have hz_10 : z_10.toInt = z_9.toInt / 2 ^ 15 := by rw [ez_10]; exact jb_ishr 15 (rfl) (by decide)
    have hbz_10 := jb_rng z_9
    refine j7_iast hx hb hK hh_7 hB hB287 1 rfl (by decide) (by decide) rfl rfl rfl hg_boundNames_3 (x := a3.toInt) (rfl) (by omega) (by first | omega | (refine ⟨?_, ?_⟩ <;> (first | omega | rfl | assumption | decide | exact Or.inl rfl | exact Or.inr rfl | (simp only; omega)))) dX7_pushQuantified_30 (fun H_11 locs_11 hh_11 => ?_)
    clear hh_7
    refine lv_aload_n hx hb dX7_pushQuantified_31 rfl (lv_at hl 1 rfl) ?_
    obtain ⟨v_12, hv_12, hh_13⟩ := hh_11.pin (C := RX7) (T := TX7) (N := 5) hB9 rfl (by decide) hg_r0 (i := 4) (by decide) rfl
    clear hh_11
    obtain ⟨boundMore_14, rfl, hg_boundMore_14⟩ := hv_12
    refine j7_read hx hb hown hK (C := RX7) (T := TX7) (N := 5) rfl hly_9_4 hlk_18 (hh_13.at 0 rfl) dX7_pushQuantified_32 ?_
    refine lv_iload_n hx hb dX7_pushQuantified_35 rfl (lv_at hl 4 rfl) ?_
    obtain ⟨f_boundMore_15, hh_15⟩ := hh_13.cpin hB288 (by decide) (by decide) hg_boundMore_14
    clear hh_13
    refine lv_iconst (v := 0) hx hb dX7_pushQuantified_36 (by decide) ?_
    refine j7_iastU hx hb hK hh_15 hB hB288 1 rfl (by decide) (by decide) rfl 0 rfl (M1 := [(r1, 280, n1, ca 1, ff)]) [1] rfl rfl rfl hg_boundMore_14 (x := a3.toInt) (rfl) (by omega) (by first | omega | (refine ⟨?_, ?_⟩ <;> (first | omega | rfl | assumption | decide | exact Or.inl rfl | exact Or.inr rfl | (simp only; omega)))) dX7_pushQuantified_37 (fun H_16 locs_16 fs_17 hv_16 ho_16 hh_16 => ?_)
    have hv_16 : jSo fs_17 (a3.toInt) = 0 := by unfold jSo; rw [hv_16]; try exact (by decide)
    clear hh_15
    refine lv_iconst (v := 0) hx hb dX7_pushQuantified_38 (by decide) ?_
    refine lv_istore (lv' := [(5, .int 0), (4, .int r_8), (0, .ref r0), (1, .ref r1), (2, .int a2), (3, .int a3)]) hx hb dX7_pushQuantified_39 hl (by decide) rfl (fun ls hl => ?_)
    have L41 : ∀ (N : Nat) (v5_18 : Int32) (fm_18 : Nat → Int32) (H_18 : Heap) (locs_18 : List Loc), jSt (dC, dI) B base G0 G0 EX7_pushQuantifiedB s.heap 0 0 [(r0, 9, 4, .ref boundMore_14), (r0, 9, 3, .ref boundNames_3)] [(boundMore_14, 288, 13, ca 1, fm_18), (r1, 280, n1, ca 1, ff)] [] H_18 locs_18 → (0 ≤ v5_18.toInt ∧ v5_18.toInt ≤ 160 ∧ jSo fm_18 a3.toInt ≤ v5_18.toInt) → (160 - v5_18.toInt : Int) < N → ∀ ls : Array Slot, lv_has ls 6 [(0, .ref r0), (1, .ref r1), (2, .int a2), (3, .int a3), (4, .int r_8), (5, .int v5_18)] → W p l e R s m ([.ref r0, .ref r1, .int a2, .int a3] : List Value).toArray below meth c H_18 locs_18 0 0 Q (F0 m 41 ls []) := by
      intro N
      induction N with
      | zero => intro v5_18 fm_18 H_18 locs_18 hh_18  hi_18 hm; exact absurd hm (by omega)
      | succ N L41 =>
        intro v5_18 fm_18 H_18 locs_18 hh_18  hi_18 hm_18 ls hl
        obtain ⟨hi_18_0, hi_18_1, hi_18_2⟩ := hi_18
        try clear hr_8_1
        refine lv_iload hx hb dX7_pushQuantified_41 (lv_at hl 5 rfl) ?_
        refine lv_sipush (v := 160) hx hb dX7_pushQuantified_43 (by decide) ?_
        have C79 : ∀ (v5_19 : Int32) (H_19 : Heap) (locs_19 : List Loc), jSt (dC, dI) B base G0 G0 EX7_pushQuantifiedB s.heap 0 0 [(r0, 9, 4, .ref boundMore_14), (r0, 9, 3, .ref boundNames_3)] [(r1, 280, n1, ca 1, ff)] [] H_19 locs_19 → (True) → ∀ ls : Array Slot, lv_has ls 6 [(0, .ref r0), (1, .ref r1), (2, .int a2), (3, .int a3), (4, .int r_8), (5, .int v5_19)] → W p l e R s m ([.ref r0, .ref r1, .int a2, .int a3] : List Value).toArray below meth c H_19 locs_19 0 0 Q (F0 m 79 ls []) := by
          intro v5_19 H_19 locs_19 hh_19  hi_19 ls hl
          refine lv_aload_n hx hb dX7_pushQuantified_79 rfl (lv_at hl 0 rfl) ?_
          refine lv_iconst (v := 2) hx hb dX7_pushQuantified_80 (by decide) ?_
          refine lv_iload_n hx hb dX7_pushQuantified_81 rfl (lv_at hl 2 rfl) ?_
          refine lv_iconst (v := 1) hx hb dX7_pushQuantified_82 (by decide) ?_
          refine lv_iadd hx hb dX7_pushQuantified_83 ?_
          refine lv_topi (fun z_20 ez_20 => ?_)
          have hz_20 : z_20.toInt = a2.toInt + 1 := by rw [ez_20]; exact jb_iadd2 (rfl) ((by decide)) (by omega)
          refine lv_sipush (v := 256) hx hb dX7_pushQuantified_84 (by decide) ?_
          refine lv_ior hx hb dX7_pushQuantified_87 ?_
          refine lv_topi (fun z_21 ez_21 => ?_)
          have hbz_21 := jb_or29 ez_21 (by omega) (by omega) (by omega) (by omega)
          refine lv_iload_n hx hb dX7_pushQuantified_88 rfl (lv_at hl 3 rfl) ?_
          refine lv_iconst (v := 1) hx hb dX7_pushQuantified_89 (by decide) ?_
          refine lv_iadd hx hb dX7_pushQuantified_90 ?_
          refine lv_topi (fun z_22 ez_22 => ?_)
          have hz_22 : z_22.toInt = a3.toInt + 1 := by rw [ez_22]; exact jb_iadd2 (rfl) ((by decide)) (by omega)
          refine lv_bipush (v := 10) hx hb dX7_pushQuantified_91 (by decide) ?_
          refine lv_ishl hx hb dX7_pushQuantified_93 ?_
          refine lv_topi (fun z_23 ez_23 => ?_)
          have hbz_23 := jb_shlc 10 1024 ez_23 (by decide) (by decide) (by omega) (by omega)
          refine lv_ior hx hb dX7_pushQuantified_94 ?_
          refine lv_topi (fun z_24 ez_24 => ?_)
          have hbz_24 := jb_or29 ez_24 (by omega) (by omega) (by omega) (by omega)
          refine va_callv (A0 := jA base) (H0 := s.heap) (va_runV (As := [.int 2, .int z_24]) (rest := []) ⟨hx, hb, hml, hown, hts⟩ (uX7_pushB l dC dI ca base B hB hAp hB9 hB286 G0 H_19 r0 2 z_24) (cwV 2 hts (jgV (jWr_31 _ (List.mem_of_getElem? (i := 9) rfl)) (jWr_31 _ (List.mem_of_getElem? (i := 10) rfl)) (jWr_31 _ (List.mem_of_getElem? (i := 11) rfl)) (jWr_2 _ (List.mem_of_getElem? (i := 8) rfl)) (jWr_31 _ (List.mem_of_getElem? (i := 12) rfl))) rfl rfl rfl (by decide +kernel) ⟨by rw [← hR]; exact Nat.le_of_ble_eq_true rfl, by rw [← hR]; exact Nat.le_of_ble_eq_true rfl⟩) ⟨fun a U g mk q => by obtain ⟨q0, q1, q2, qK, q10, q11, q12⟩ := q; exact ⟨q0, q1, q2, jG.calling g mk a qK, q10, q11, q12⟩, hh_19.recv (C := RX7) (T := TX7) (N := 5) hB9 rfl (by decide) hg_r0 hK, fun U hU hW => ⟨rfl, hU, hh_19.2.1, hG.step hW hU hh_19.1, hg_r0, jP.nil, by first | omega | (refine ⟨?_, ?_, ?_⟩ <;> (first | omega | rfl | assumption | decide | exact Or.inl rfl | exact Or.inr rfl | (simp only; omega)))⟩⟩ rfl rfl hl.1 rfl (lv_room (Nat.le_of_ble_eq_true rfl)) dX7_pushQuantified_95 ⟨Nat.zero_le _, Nat.zero_le _⟩) hh_19.1 (fun q _ h => h) (fun q h => h) (fun u_25 t_25 H_25 locs_25 ht_25 hvm_25 hr_26 hb_25 hz_25 hk_25 hS_25 => ?_)
          rw [ht_25] at hb_25
          obtain ⟨hb_251, hb_252, hb_253, hb_254, hb_255⟩ := hb_25
          have hh_25 : jSt (dC, dI) B base G0 G0 EX7_pushQuantifiedB s.heap 0 0 [(r0, 9, 4, .ref boundMore_14), (r0, 9, 3, .ref boundNames_3)] [(r1, 280, n1, ca 1, ff)] [] H_25 locs_25 := ((hh_19.call hb_251 hb_252 hb_253 hb_254 hS_25 rfl (L1 := [(r0, 9, 4, .ref boundMore_14), (r0, 9, 3, .ref boundNames_3)]) [0, 1] rfl rfl (M1 := [(r1, 280, n1, ca 1, ff)]) [0] rfl rfl (I1 := []) [] rfl rfl).more hb_255)
          clear hh_19 ht_25 hvm_25 hz_25 hk_25 hS_25 hb_251 hb_252 hb_253 hb_254 hb_255
          refine lv_aload_n hx hb dX7_pushQuantified_98 rfl (lv_at hl 0 rfl) ?_
          refine lv_iconst (v := 0) hx hb dX7_pushQuantified_99 (by decide) ?_
          refine lv_bipush (v := 18) hx hb dX7_pushQuantified_100 (by decide) ?_
          refine va_callv (A0 := jA base) (H0 := s.heap) (va_runV (As := [.int 0, .int 18]) (rest := []) ⟨hx, hb, hml, hown, hts⟩ (uX7_pushB l dC dI ca base B hB hAp hB9 hB286 G0 H_25 r0 0 18) (cwV 2 hts (jgV (jWr_31 _ (List.mem_of_getElem? (i := 9) rfl)) (jWr_31 _ (List.mem_of_getElem? (i := 10) rfl)) (jWr_31 _ (List.mem_of_getElem? (i := 11) rfl)) (jWr_2 _ (List.mem_of_getElem? (i := 8) rfl)) (jWr_31 _ (List.mem_of_getElem? (i := 12) rfl))) rfl rfl rfl (by decide +kernel) ⟨by rw [← hR]; exact Nat.le_of_ble_eq_true rfl, by rw [← hR]; exact Nat.le_of_ble_eq_true rfl⟩) ⟨fun a U g mk q => by obtain ⟨q0, q1, q2, qK, q10, q11, q12⟩ := q; exact ⟨q0, q1, q2, jG.calling g mk a qK, q10, q11, q12⟩, hh_25.recv (C := RX7) (T := TX7) (N := 5) hB9 rfl (by decide) hg_r0 hK, fun U hU hW => ⟨rfl, hU, hh_25.2.1, hG.step hW hU hh_25.1, hg_r0, jP.nil, by first | omega | (refine ⟨?_, ?_, ?_⟩ <;> (first | omega | rfl | assumption | decide | exact Or.inl rfl | exact Or.inr rfl | (simp only; omega)))⟩⟩ rfl rfl hl.1 rfl (lv_room (Nat.le_of_ble_eq_true rfl)) dX7_pushQuantified_102 ⟨Nat.zero_le _, Nat.zero_le _⟩) hh_25.1 (fun q _ h => h) (fun q h => h) (fun u_27 t_27 H_27 locs_27 ht_27 hvm_27 hr_28 hb_27 hz_27 hk_27 hS_27 => ?_)
          rw [ht_27] at hb_27
          obtain ⟨hb_271, hb_272, hb_273, hb_274, hb_275⟩ := hb_27
          have hh_27 : jSt (dC, dI) B base G0 G0 EX7_pushQuantifiedB s.heap 0 0 [(r0, 9, 4, .ref boundMore_14), (r0, 9, 3, .ref boundNames_3)] [(r1, 280, n1, ca 1, ff)] [] H_27 locs_27 := ((hh_25.call hb_271 hb_272 hb_273 hb_274 hS_27 rfl (L1 := [(r0, 9, 4, .ref boundMore_14), (r0, 9, 3, .ref boundNames_3)]) [0, 1] rfl rfl (M1 := [(r1, 280, n1, ca 1, ff)]) [0] rfl rfl (I1 := []) [] rfl rfl).more hb_275)
          clear hh_25 ht_27 hvm_27 hz_27 hk_27 hS_27 hb_271 hb_272 hb_273 hb_274 hb_275
          refine lv_aload_n hx hb dX7_pushQuantified_105 rfl (lv_at hl 0 rfl) ?_
          refine lv_iconst (v := 1) hx hb dX7_pushQuantified_106 (by decide) ?_
          refine lv_aload_n hx hb dX7_pushQuantified_107 rfl (lv_at hl 0 rfl) ?_
          refine j7_read hx hb hown hK (C := RX7) (T := TX7) (N := 5) rfl hly_9_3 hlk_15 (hh_27.at 1 rfl) dX7_pushQuantified_108 ?_
          refine lv_iload_n hx hb dX7_pushQuantified_111 rfl (lv_at hl 3 rfl) ?_
          refine j7_iald hx hb hK hh_27 hB287 1 rfl (by decide) hg_boundNames_3 (x := a3.toInt) (rfl) (by omega) dX7_pushQuantified_112 (fun z_29 (hz_29 : 0 ≤ z_29.toInt ∧ z_29.toInt ≤ 65535) => ?_)
          refine lv_aload_n hx hb dX7_pushQuantified_113 rfl (lv_at hl 0 rfl) ?_
          refine j7_read hx hb hown hK (C := RX7) (T := TX7) (N := 5) rfl hly_9_4 hlk_18 (hh_27.at 0 rfl) dX7_pushQuantified_114 ?_
          refine lv_iload_n hx hb dX7_pushQuantified_117 rfl (lv_at hl 3 rfl) ?_
          refine j7_iald hx hb hK hh_27 hB288 1 rfl (by decide) hg_boundMore_14 (x := a3.toInt) (rfl) (by omega) dX7_pushQuantified_118 (fun z_30 (hz_30 : 0 ≤ z_30.toInt ∧ z_30.toInt ≤ 160) => ?_)
          refine lv_bipush (v := 17) hx hb dX7_pushQuantified_119 (by decide) ?_
          refine lv_ishl hx hb dX7_pushQuantified_121 ?_
          refine lv_topi (fun z_31 ez_31 => ?_)
          have hbz_31 := jb_shlc 17 131072 ez_31 (by decide) (by decide) (by omega) (by omega)
          refine lv_ior hx hb dX7_pushQuantified_122 ?_
          refine lv_topi (fun z_32 ez_32 => ?_)
          have hbz_32 := jb_or29 ez_32 (by omega) (by omega) (by omega) (by omega)
          refine va_callv (A0 := jA base) (H0 := s.heap) (va_runV (As := [.int 1, .int z_32]) (rest := []) ⟨hx, hb, hml, hown, hts⟩ (uX7_pushB l dC dI ca base B hB hAp hB9 hB286 G0 H_27 r0 1 z_32) (cwV 2 hts (jgV (jWr_31 _ (List.mem_of_getElem? (i := 9) rfl)) (jWr_31 _ (List.mem_of_getElem? (i := 10) rfl)) (jWr_31 _ (List.mem_of_getElem? (i := 11) rfl)) (jWr_2 _ (List.mem_of_getElem? (i := 8) rfl)) (jWr_31 _ (List.mem_of_getElem? (i := 12) rfl))) rfl rfl rfl (by decide +kernel) ⟨by rw [← hR]; exact Nat.le_of_ble_eq_true rfl, by rw [← hR]; exact Nat.le_of_ble_eq_true rfl⟩) ⟨fun a U g mk q => by obtain ⟨q0, q1, q2, qK, q10, q11, q12⟩ := q; exact ⟨q0, q1, q2, jG.calling g mk a qK, q10, q11, q12⟩, hh_27.recv (C := RX7) (T := TX7) (N := 5) hB9 rfl (by decide) hg_r0 hK, fun U hU hW => ⟨rfl, hU, hh_27.2.1, hG.step hW hU hh_27.1, hg_r0, jP.nil, by first | omega | (refine ⟨?_, ?_, ?_⟩ <;> (first | omega | rfl | assumption | decide | exact Or.inl rfl | exact Or.inr rfl | (simp only; omega)))⟩⟩ rfl rfl hl.1 rfl (lv_room (Nat.le_of_ble_eq_true rfl)) dX7_pushQuantified_123 ⟨Nat.zero_le _, Nat.zero_le _⟩) hh_27.1 (fun q _ h => h) (fun q h => h) (fun u_33 t_33 H_33 locs_33 ht_33 hvm_33 hr_34 hb_33 hz_33 hk_33 hS_33 => ?_)
          rw [ht_33] at hb_33
          obtain ⟨hb_331, hb_332, hb_333, hb_334, hb_335⟩ := hb_33
          have hh_33 : jSt (dC, dI) B base G0 G0 EX7_pushQuantifiedB s.heap 0 0 [(r0, 9, 4, .ref boundMore_14), (r0, 9, 3, .ref boundNames_3)] [(r1, 280, n1, ca 1, ff)] [] H_33 locs_33 := ((hh_27.call hb_331 hb_332 hb_333 hb_334 hS_33 rfl (L1 := [(r0, 9, 4, .ref boundMore_14), (r0, 9, 3, .ref boundNames_3)]) [0, 1] rfl rfl (M1 := [(r1, 280, n1, ca 1, ff)]) [0] rfl rfl (I1 := []) [] rfl rfl).more hb_335)
          clear hh_27 ht_33 hvm_33 hz_33 hk_33 hS_33 hb_331 hb_332 hb_333 hb_334 hb_335
          refine lv_aload_n hx hb dX7_pushQuantified_126 rfl (lv_at hl 0 rfl) ?_
          refine lv_iconst (v := 0) hx hb dX7_pushQuantified_127 (by decide) ?_
          refine lv_aload_n hx hb dX7_pushQuantified_128 rfl (lv_at hl 1 rfl) ?_
          refine lv_iload_n hx hb dX7_pushQuantified_129 rfl (lv_at hl 2 rfl) ?_
          refine j7_ialdM hx hb hK hh_33 hB280 1 rfl (by decide) hg_r1 (x := a2.toInt) (rfl) (by omega) (j := 0) rfl dX7_pushQuantified_130 (fun z_35 ez_35 (hz_35 : -1 ≤ z_35.toInt) => ?_)
          have hqz_35 : z_35.toInt = jSo ff (a2.toInt) := by unfold jSo; rw [ez_35]
          refine lv_bipush (v := 15) hx hb dX7_pushQuantified_131 (by decide) ?_
          refine lv_iand hx hb dX7_pushQuantified_133 ?_
          refine lv_topi (fun z_36 ez_36 => ?_)
          have hz_36 : 0 ≤ z_36.toInt ∧ z_36.toInt ≤ 15 := by rw [ez_36]; exact jb_and z_35 (m := 15) (k := 4) (by decide) (by decide)
          refine va_callv (A0 := jA base) (H0 := s.heap) (va_runV (As := [.int 0, .int z_36]) (rest := []) ⟨hx, hb, hml, hown, hts⟩ (uX7_pushB l dC dI ca base B hB hAp hB9 hB286 G0 H_33 r0 0 z_36) (cwV 2 hts (jgV (jWr_31 _ (List.mem_of_getElem? (i := 9) rfl)) (jWr_31 _ (List.mem_of_getElem? (i := 10) rfl)) (jWr_31 _ (List.mem_of_getElem? (i := 11) rfl)) (jWr_2 _ (List.mem_of_getElem? (i := 8) rfl)) (jWr_31 _ (List.mem_of_getElem? (i := 12) rfl))) rfl rfl rfl (by decide +kernel) ⟨by rw [← hR]; exact Nat.le_of_ble_eq_true rfl, by rw [← hR]; exact Nat.le_of_ble_eq_true rfl⟩) ⟨fun a U g mk q => by obtain ⟨q0, q1, q2, qK, q10, q11, q12⟩ := q; exact ⟨q0, q1, q2, jG.calling g mk a qK, q10, q11, q12⟩, hh_33.recv (C := RX7) (T := TX7) (N := 5) hB9 rfl (by decide) hg_r0 hK, fun U hU hW => ⟨rfl, hU, hh_33.2.1, hG.step hW hU hh_33.1, hg_r0, jP.nil, by first | omega | (refine ⟨?_, ?_, ?_⟩ <;> (first | omega | rfl | assumption | decide | exact Or.inl rfl | exact Or.inr rfl | (simp only; omega)))⟩⟩ rfl rfl hl.1 rfl (lv_room (Nat.le_of_ble_eq_true rfl)) dX7_pushQuantified_134 ⟨Nat.zero_le _, Nat.zero_le _⟩) hh_33.1 (fun q _ h => h) (fun q h => h) (fun u_37 t_37 H_37 locs_37 ht_37 hvm_37 hr_38 hb_37 hz_37 hk_37 hS_37 => ?_)
          rw [ht_37] at hb_37
          obtain ⟨hb_371, hb_372, hb_373, hb_374, hb_375⟩ := hb_37
          have hh_37 : jSt (dC, dI) B base G0 G0 EX7_pushQuantifiedB s.heap 0 0 [(r0, 9, 4, .ref boundMore_14), (r0, 9, 3, .ref boundNames_3)] [(r1, 280, n1, ca 1, ff)] [] H_37 locs_37 := ((hh_33.call hb_371 hb_372 hb_373 hb_374 hS_37 rfl (L1 := [(r0, 9, 4, .ref boundMore_14), (r0, 9, 3, .ref boundNames_3)]) [0, 1] rfl rfl (M1 := [(r1, 280, n1, ca 1, ff)]) [0] rfl rfl (I1 := []) [] rfl rfl).more hb_375)
          clear hh_33 ht_37 hvm_37 hz_37 hk_37 hS_37 hb_371 hb_372 hb_373 hb_374 hb_375
          rw [hQ]
          exact W.vret hx hb hr (fun t ht hW => ⟨⟨(), rfl, trivial, hh_37.rt (M1 := []) [] rfl ht⟩, by rw [ht]; try exact hh_37.1.1, fun q h9 hq => by rw [ht]; try exact hh_37.1.2.1 q h9 hq⟩) hh_37.1.2.2 dX7_pushQuantified_137
        refine lv_icmp_ge (tgt := 79) hx hb dX7_pushQuantified_46 (by decide) (fun c_39 => ?_) (fun c_39 => ?_)
        · skip
          have c_39' : v5_18.toInt ≥ 160 := jb_ge (rfl) ((by decide)) c_39
          exact C79 v5_18 _ _ (hh_18.sub (L1 := [(r0, 9, 4, .ref boundMore_14), (r0, 9, 3, .ref boundNames_3)]) [0, 1] rfl (M1 := [(r1, 280, n1, ca 1, ff)]) [1] rfl (I1 := []) [] rfl) (trivial) _ (lv_sub hl [0, 1, 2, 3, 4, 5] rfl)
        · skip
          have c_39' : v5_18.toInt < 160 := jb_ge_n (rfl) ((by decide)) c_39
          refine lv_aload_n hx hb dX7_pushQuantified_49 rfl (lv_at hl 0 rfl) ?_
          refine lv_aload_n hx hb dX7_pushQuantified_50 rfl (lv_at hl 1 rfl) ?_
          refine lv_iload_n hx hb dX7_pushQuantified_51 rfl (lv_at hl 2 rfl) ?_
          refine lv_iconst (v := 1) hx hb dX7_pushQuantified_52 (by decide) ?_
          refine lv_iadd hx hb dX7_pushQuantified_53 ?_
          refine lv_topi (fun z_40 ez_40 => ?_)
          have hz_40 : z_40.toInt = a2.toInt + 1 := by rw [ez_40]; exact jb_iadd2 (rfl) ((by decide)) (by omega)
          refine lv_iload hx hb dX7_pushQuantified_54 (lv_at hl 4 rfl) ?_
          refine lv_iload_n hx hb dX7_pushQuantified_56 rfl (lv_at hl 3 rfl) ?_
          refine va_calli (A0 := jA base) (H0 := s.heap) (va_runV (As := [.ref r1, .int z_40, .int r_8, .int a3]) (rest := []) ⟨hx, hb, hml, hown, hts⟩ (uX7_isWrittenInB l dC dI ca base B hB hAp hB8 hB9 hB102 hB132 hB280 hB287 hB288 G0 H_18 r0 r1 z_40 r_8 a3 n1) (cwV 4 hts (jgV (jWr_32 _ (List.mem_of_getElem? (i := 5) rfl)) (jWr_32 _ (List.mem_of_getElem? (i := 6) rfl)) (jWr_32 _ (List.mem_of_getElem? (i := 7) rfl)) (jWr_2 _ (List.mem_of_getElem? (i := 8) rfl)) (jWr_32 _ (List.mem_of_getElem? (i := 8) rfl))) rfl rfl rfl (by decide +kernel) ⟨by rw [← hR]; exact Nat.le_of_ble_eq_true rfl, by rw [← hR]; exact Nat.le_of_ble_eq_true rfl⟩) ⟨fun a U g mk q => by obtain ⟨q0, q1, q2, qK, q10, q11, q12, q13⟩ := q; exact ⟨q0, q1, q2, jG.calling g mk a qK, q10, q11, q12, q13⟩, hh_18.recv (C := RX7) (T := TX7) (N := 5) hB9 rfl (by decide) hg_r0 hK, fun U hU hW => ⟨rfl, hU, hh_18.2.1, hG.step hW hU hh_18.1, hg_r1, hg_r0, jP.nil, by first | omega | (refine ⟨?_, ?_, ?_, ?_, ?_⟩ <;> (first | omega | rfl | assumption | decide | exact Or.inl rfl | exact Or.inr rfl | (simp only; omega)))⟩⟩ rfl rfl hl.1 rfl (lv_room (Nat.le_of_ble_eq_true rfl)) dX7_pushQuantified_57 ⟨Nat.zero_le _, Nat.zero_le _⟩) hh_18.1 (fun q _ h => h) (fun q h => h) (fun r_42 u_41 t_41 H_41 locs_41 ht_41 hvm_41 hr_42 hb_41 hz_41 hk_41 hS_41 => ?_)
          rw [ht_41] at hb_41
          obtain ⟨hb_411, hb_412, hb_413, hb_414, hb_415⟩ := hb_41
          have hh_41 : jSt (dC, dI) B base G0 G0 EX7_pushQuantifiedB s.heap 0 0 [(r0, 9, 4, .ref boundMore_14), (r0, 9, 3, .ref boundNames_3)] [(boundMore_14, 288, 13, ca 1, fm_18), (r1, 280, n1, ca 1, ff)] [] H_41 locs_41 := ((hh_18.call hb_411 hb_412 hb_413 hb_414 hS_41 rfl (L1 := [(r0, 9, 4, .ref boundMore_14), (r0, 9, 3, .ref boundNames_3)]) [0, 1] rfl rfl (M1 := [(boundMore_14, 288, 13, ca 1, fm_18), (r1, 280, n1, ca 1, ff)]) [0, 1] rfl rfl (I1 := []) [] rfl rfl).more hb_415)
          clear hh_18 ht_41 hvm_41 hz_41 hk_41 hS_41 hb_411 hb_412 hb_413 hb_414 hb_415
          obtain ⟨hr_42b, hr_42p⟩ := hr_42
          have hr_42' := jb_01 hr_42b
          refine lv_if_eq (tgt := 79) hx hb dX7_pushQuantified_60 (by decide) (fun c_43 => ?_) (fun c_43 => ?_)
          · skip
            have c_43' : r_42.toInt = 0 := jb_eq (rfl) ((by decide)) c_43
            exact C79 v5_18 _ _ (hh_41.sub (L1 := [(r0, 9, 4, .ref boundMore_14), (r0, 9, 3, .ref boundNames_3)]) [0, 1] rfl (M1 := [(r1, 280, n1, ca 1, ff)]) [1] rfl (I1 := []) [] rfl) (trivial) _ (lv_sub hl [0, 1, 2, 3, 4, 5] rfl)
          · skip
            have c_43' : r_42.toInt ≠ 0 := jb_eq_n (rfl) ((by decide)) c_43
            refine lv_aload_n hx hb dX7_pushQuantified_63 rfl (lv_at hl 0 rfl) ?_
            refine j7_read hx hb hown hK (C := RX7) (T := TX7) (N := 5) rfl hly_9_4 hlk_18 (hh_41.at 0 rfl) dX7_pushQuantified_64 ?_
            refine lv_iload_n hx hb dX7_pushQuantified_67 rfl (lv_at hl 3 rfl) ?_
            refine lv_dup2_11 hx hb dX7_pushQuantified_68 rfl rfl ?_
            refine j7_ialdM hx hb hK hh_41 hB288 1 rfl (by decide) hg_boundMore_14 (x := a3.toInt) (rfl) (by omega) (j := 0) rfl dX7_pushQuantified_69 (fun z_44 ez_44 (hz_44 : 0 ≤ z_44.toInt ∧ z_44.toInt ≤ 160) => ?_)
            have hqz_44 : z_44.toInt = jSo fm_18 (a3.toInt) := by unfold jSo; rw [ez_44]
            refine lv_iconst (v := 1) hx hb dX7_pushQuantified_70 (by decide) ?_
            refine lv_iadd hx hb dX7_pushQuantified_71 ?_
            refine lv_topi (fun z_45 ez_45 => ?_)
            have hz_45 : z_45.toInt = z_44.toInt + 1 := by rw [ez_45]; exact jb_iadd2 (rfl) ((by decide)) (by omega)
            have hbm := hqz_44
            refine j7_iastU hx hb hK hh_41 hB hB288 1 rfl (by decide) (by decide) rfl 0 rfl (M1 := [(r1, 280, n1, ca 1, ff)]) [1] rfl rfl rfl hg_boundMore_14 (x := a3.toInt) (rfl) (by omega) (by first | omega | (refine ⟨?_, ?_⟩ <;> (first | omega | rfl | assumption | decide | exact Or.inl rfl | exact Or.inr rfl | (simp only; omega)))) dX7_pushQuantified_72 (fun H_46 locs_46 fs_47 hv_46 ho_46 hh_46 => ?_)
            have hv_46 : jSo fs_47 (a3.toInt) = z_45.toInt := by unfold jSo; rw [hv_46]; try exact rfl
            clear hh_41
            obtain ⟨z_48, ez_48⟩ : ∃ y : Int32, y = v5_18 + 1 := ⟨_, rfl⟩
            refine lv_iinc (v := z_48) (lv' := [(5, .int z_48), (0, .ref r0), (1, .ref r1), (2, .int a2), (3, .int a3), (4, .int r_8)]) hx hb dX7_pushQuantified_73 hl (k := 5) rfl (by rw [ez_48]; rfl) (by decide) rfl (fun ls hl => ?_)
            have hz_48 : z_48.toInt = v5_18.toInt + 1 := by rw [ez_48]; exact jb_iadd2 (rfl) (by decide) (by omega)
            refine lv_goto (tgt := 41) hx hb dX7_pushQuantified_76 (by decide) ?_
            exact L41 z_48 fs_47 _ _ hh_46 (by first | omega | (refine ⟨?_, ?_, ?_⟩ <;> (first | omega | rfl | assumption | decide | exact Or.inl rfl | exact Or.inr rfl | (simp only; omega)))) (by omega) _ (lv_sub hl [1, 2, 3, 4, 5, 0] rfl)
    exact L41 (160 - (0 : Int32).toInt : Int).toNat.succ 0 fs_17 _ _ hh_16 (by first | omega | (refine ⟨?_, ?_, ?_⟩ <;> (first | omega | rfl | assumption | decide | exact Or.inl rfl | exact Or.inr rfl | (simp only; omega)))) (by omega) _ (lv_sub hl [2, 3, 4, 5, 1, 0] rfl)
  · skip
    have c_5' : a3.toInt ≥ z_4.toInt := jb_lt_n (rfl) (rfl) c_5
    rw [hQ]
    exact W.vret hx hb hr (fun t ht hW => ⟨⟨(), rfl, trivial, hh_2.rt (M1 := []) [] rfl ht⟩, by rw [ht]; try exact hh_2.1.1, fun q h9 hq => by rw [ht]; try exact hh_2.1.2.1 q h9 hq⟩) hh_2.1.2.2 dX7_pushQuantified_9
end
