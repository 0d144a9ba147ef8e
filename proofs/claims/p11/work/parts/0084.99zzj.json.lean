section
def EX0_decodedSizeD : List (Nat × Nat) := []
def EX4_makeP : List (Nat × Nat) := [(6, 7), (140, 0), (141, 0), (142, 0), (143, 0), (144, 0), (145, 0)]
def EX4_addUnitP : List (Nat × Nat) := [(6, 8), (146, 0)]
def EX4_addCharP : List (Nat × Nat) := [(6, 8), (146, 0)]
def EX4_fourDigitsP : List (Nat × Nat) := [(6, 11)]
def EX4_isEscapeP : List (Nat × Nat) := [(6, 8), (6, 11), (146, 0)]
def EX4_isUnitEscapeP : List (Nat × Nat) := [(6, 8), (6, 11), (146, 0)]
def EX4_isStringP : List (Nat × Nat) := [(6, 8), (6, 11), (146, 0)]
set_option maxHeartbeats 4000000 in
set_option maxRecDepth 20000 in
theorem uX0_decodedSizeD (l : Launch) (dC : Nat → ClassId) (dI : Nat → Nat → Nat) (ca : Nat → ClassId) (base : Nat) (B : jF) (hB : jBok B) (hAp : jAp (dC, dI)) (G0 : jT) (H0 : Heap) (a0 : Int32) : Met l yX0_decodedSize (jw yX0_decodedSize cX0_decodedSize 1 (some .int)) ({ frames := 0, cells := 0, slots := 0, locals := 0 }) (va_Pc [.int a0] (fun U => U.heap = H0 ∧ jX B base G0 [] H0 ∧ jG dC dI ca base U ∧ jP (dC, dI) G0 H0 [] ∧ True)) (va_Qi (S := Unit) (fun r u => (1 ≤ r.toInt ∧ r.toInt ≤ 4 ∧ (a0.toInt < 65536 ∨ 2 ≤ r.toInt))) (fun u t => jRt (dC, dI) B base G0 EX0_decodedSizeD H0 [] t.heap) (jA base)) 0 0 (jA base) := by
  refine Met.ofW (cc := cX0_decodedSize) (maxL := 1) (ret := (some .int)) (by decide) rfl ?_
  intro p e s m args below meth c s₁ Bd hml hv
  obtain ⟨rfl, hH0, hX, hG, hP0, hp0⟩ := hv
  have hK := hG.1
  have hx := Bd.exec
  have hb := Bd.bytes
  have hr := Bd.returns
  have hts := atoms_spec (ws := (jw yX0_decodedSize cX0_decodedSize 1 (some .int))) Bd.pre
  have htw : ∀ w ∈ jWl, w.before _ s = true := fun w h => hts w (List.mem_cons_of_mem _ h)
  have hown : s.vm.findClass RX0 = some m.cls := findClass_of_methodNamed Bd.named
  have hlocks := Bd.notSynchronized
  obtain ⟨Q, hQ⟩ : ∃ Q, Q = MQ below (va_Qi (S := Unit) (fun r u => (1 ≤ r.toInt ∧ r.toInt ≤ 4 ∧ (a0.toInt < 65536 ∨ 2 ≤ r.toInt))) (fun u t => jRt (dC, dI) B base G0 EX0_decodedSizeD H0 [] t.heap) (jA base)) ([.int a0] : List Value).toArray s 0 0 (jA base) := ⟨_, rfl⟩
  rw [← hQ]
  have hl := lv_entry ([.int a0]) (n := 1) (Nat.le_of_ble_eq_true rfl)
  rw [lg_entry_eq]
  generalize (lg_sl ([.int a0]) ++ List.replicate (1 - (lg_sl ([.int a0])).length) Slot.unset).toArray = ls at hl ⊢
  have hl : lv_has ls 1 [(0, .int a0)] := hl
  generalize hR : (headSpec (jw yX0_decodedSize cX0_decodedSize 1 (some .int)) ({ frames := 0, cells := 0, slots := 0, locals := 0 })).room = R
  subst hH0
  have hh : jSt (dC, dI) B base G0 G0 EX0_decodedSizeD s.heap 0 0 [] [] [] s.heap [] := jSt.start hX hP0 jMc.nil jIs.nil
  clear hX hP0
  have hk0 : (0 : Int32).toInt = 0 := by decide
  have hk1 : (1 : Int32).toInt = 1 := by decide
  have hk2 : (2 : Int32).toInt = 2 := by decide
  have hk3 : (3 : Int32).toInt = 3 := by decide
  have hk4 : (4 : Int32).toInt = 4 := by decide
  have hk128 : (128 : Int32).toInt = 128 := by decide
  have hk2048 : (2048 : Int32).toInt = 2048 := by decide
  have hk65536 : (65536 : Int32).toInt = 65536 := by decide
  have hcs_60 := htw (.constant RX0 60 65536) (jWr_20 _ (List.mem_of_getElem? (i := 15) rfl))
  have hrg_a0 := jb_rng a0
  refine lv_iload_n hx hb dX0_decodedSize_0 rfl (lv_at hl 0 rfl) ?_
  refine lv_sipush (v := 128) hx hb dX0_decodedSize_1 (by decide) ?_
  refine lv_icmp_ge (tgt := 11) hx hb dX0_decodedSize_4 (by decide) (fun c_1 => ?_) (fun c_1 => ?_)
  · skip
    have c_1' : a0.toInt ≥ 128 := jb_ge (rfl) ((by decide)) c_1
    refine lv_iload_n hx hb dX0_decodedSize_11 rfl (lv_at hl 0 rfl) ?_
    refine lv_sipush (v := 2048) hx hb dX0_decodedSize_12 (by decide) ?_
    refine lv_icmp_ge (tgt := 22) hx hb dX0_decodedSize_15 (by decide) (fun c_2 => ?_) (fun c_2 => ?_)
    · skip
      have c_2' : a0.toInt ≥ 2048 := jb_ge (rfl) ((by decide)) c_2
      refine lv_iload_n hx hb dX0_decodedSize_22 rfl (lv_at hl 0 rfl) ?_
      refine lv_ldc hx hb hown hcs_60 dX0_decodedSize_23 ?_
      refine lv_icmp_ge (tgt := 32) hx hb dX0_decodedSize_25 (by decide) (fun c_3 => ?_) (fun c_3 => ?_)
      · skip
        have c_3' : a0.toInt ≥ 65536 := jb_ge (rfl) ((by decide)) c_3
        refine lv_iconst (v := 4) hx hb dX0_decodedSize_32 (by decide) ?_
        rw [hQ]
        exact W.iret (v := 4) hx hb hr (fun t ht hW => ⟨⟨4, (), rfl, by first | omega | (refine ⟨?_, ?_, ?_⟩ <;> (first | omega | rfl | assumption | decide | exact Or.inl rfl | exact Or.inr rfl | (simp only; omega))), hh.rt (M1 := []) [] rfl ht⟩, by rw [ht]; try exact hh.1.1, fun q h9 hq => by rw [ht]; try exact hh.1.2.1 q h9 hq⟩) hh.1.2.2 dX0_decodedSize_33
      · skip
        have c_3' : a0.toInt < 65536 := jb_ge_n (rfl) ((by decide)) c_3
        refine lv_iconst (v := 3) hx hb dX0_decodedSize_28 (by decide) ?_
        refine lv_goto (tgt := 33) hx hb dX0_decodedSize_29 (by decide) ?_
        rw [hQ]
        exact W.iret (v := 3) hx hb hr (fun t ht hW => ⟨⟨3, (), rfl, by first | omega | (refine ⟨?_, ?_, ?_⟩ <;> (first | omega | rfl | assumption | decide | exact Or.inl rfl | exact Or.inr rfl | (simp only; omega))), hh.rt (M1 := []) [] rfl ht⟩, by rw [ht]; try exact hh.1.1, fun q h9 hq => by rw [ht]; try exact hh.1.2.1 q h9 hq⟩) hh.1.2.2 dX0_decodedSize_33
    · skip
      have c_2' : a0.toInt < 2048 := jb_ge_n (rfl) ((by decide)) c_2
      refine lv_iconst (v := 2) hx hb dX0_decodedSize_18 (by decide) ?_
      refine lv_goto (tgt := 33) hx hb dX0_decodedSize_19 (by decide) ?_
      rw [hQ]
      exact W.iret (v := 2) hx hb hr (fun t ht hW => ⟨⟨2, (), rfl, by first | omega | (refine ⟨?_, ?_, ?_⟩ <;> (first | omega | rfl | assumption | decide | exact Or.inl rfl | exact Or.inr rfl | (simp only; omega))), hh.rt (M1 := []) [] rfl ht⟩, by rw [ht]; try exact hh.1.1, fun q h9 hq => by rw [ht]; try exact hh.1.2.1 q h9 hq⟩) hh.1.2.2 dX0_decodedSize_33
  · skip
    have c_1' : a0.toInt < 128 := jb_ge_n (rfl) ((by decide)) c_1
    refine lv_iconst (v := 1) hx hb dX0_decodedSize_7 (by decide) ?_
    refine lv_goto (tgt := 33) hx hb dX0_decodedSize_8 (by decide) ?_
    rw [hQ]
    exact W.iret (v := 1) hx hb hr (fun t ht hW => ⟨⟨1, (), rfl, by first | omega | (refine ⟨?_, ?_, ?_⟩ <;> (first | omega | rfl | assumption | decide | exact Or.inl rfl | exact Or.inr rfl | (simp only; omega))), hh.rt (M1 := []) [] rfl ht⟩, by rw [ht]; try exact hh.1.1, fun q h9 hq => by rw [ht]; try exact hh.1.2.1 q h9 hq⟩) hh.1.2.2 dX0_decodedSize_33
set_option maxHeartbeats 4000000 in
set_option maxRecDepth 20000 in
theorem uX4_makeP (l : Launch) (dC : Nat → ClassId) (dI : Nat → Nat → Nat) (ca : Nat → ClassId) (base : Nat) (B : jF) (hB : jBok B) (hAp : jAp (dC, dI)) (hB6 : ∀ n G a H, B 6 n G a H ↔ jOb (dC, dI) 6 12 (F6 n G) a H) (hB140 : ∀ n G a H, B 140 n G a H ↔ jAr (dC, dI) (ca 1) (fun j z => True) n a H) (hB141 : ∀ n G a H, B 141 n G a H ↔ jAr (dC, dI) (ca 1) (fun j z => True) n a H) (hB142 : ∀ n G a H, B 142 n G a H ↔ jAr (dC, dI) (ca 1) (fun j z => True) n a H) (hB143 : ∀ n G a H, B 143 n G a H ↔ jAr (dC, dI) (ca 1) (fun j z => True) n a H) (hB144 : ∀ n G a H, B 144 n G a H ↔ jAr (dC, dI) (ca 1) (fun j z => 0 ≤ z.toInt ∧ z.toInt ≤ 3000) n a H) (hB145 : ∀ n G a H, B 145 n G a H ↔ jAr (dC, dI) (ca 1) (fun j z => True) n a H) (G0 : jT) (H0 : Heap) (r0 : Nat) (a1 : Int32) (a2 : Int32) (a3 : Int32) (pv : Int32) (wk : Nat) (wi : Nat) (wz : Nat) (jkf : Nat) (jks : Nat) (fk : Nat → Int32) (fi : Nat → Int32) (fz : Nat → Int32) (fa : Nat → Int32) (fs : Nat → Int32) : Met l yX4_make (jw yX4_make cX4_make 4 (some .int)) ({ frames := 0, cells := 0, slots := 0, locals := 0 }) (va_Pc [.ref r0, .int a1, .int a2, .int a3] (fun U => U.heap = H0 ∧ jX B base G0 [] H0 ∧ jG dC dI ca base U ∧ G0 r0 = some (6, 0) ∧ G0 wk = some (140, 1502) ∧ G0 wi = some (141, 1502) ∧ G0 wz = some (142, 1502) ∧ G0 jkf = some (144, 1502) ∧ G0 jks = some (145, 1502) ∧ jP (dC, dI) G0 H0 [(r0, 6, 7, .int pv), (r0, 6, 0, .ref wk), (r0, 6, 1, .ref wi), (r0, 6, 2, .ref wz), (r0, 6, 4, .ref jkf), (r0, 6, 5, .ref jks)] ∧ jMc (dC, dI) G0 H0 [(wk, 140, 1502, ca 1, fk), (wi, 141, 1502, ca 1, fi), (wz, 142, 1502, ca 1, fz), (jkf, 144, 1502, ca 1, fa), (jks, 145, 1502, ca 1, fs)] ∧ 0 ≤ pv.toInt ∧ pv.toInt ≤ 1502)) (va_Qi (S := Int32 × (Nat → Int32) × (Nat → Int32) × (Nat → Int32) × (Nat → Int32) × (Nat → Int32)) (fun r u => (((r.toInt = -1 ∧ u.1.toInt = pv.toInt) ∨ (r.toInt = pv.toInt ∧ u.1.toInt = pv.toInt + 1)) ∧ u.1.toInt ≤ 1502 ∧ jMq (fk, fi, fz, fa, fs) (u.2.1, u.2.2.1, u.2.2.2.1, u.2.2.2.2.1, u.2.2.2.2.2) pv.toInt ∧ (r.toInt < 0 ∨ jMv (u.2.1, u.2.2.1, u.2.2.2.1, u.2.2.2.2.1, u.2.2.2.2.2) pv.toInt a1.toInt a2.toInt a3.toInt))) (fun u t => jRt (dC, dI) B base G0 EX4_makeP H0 [(r0, 6, 7, .int u.1)] t.heap ∧ jMc (dC, dI) G0 t.heap [(wk, 140, 1502, ca 1, u.2.1), (wi, 141, 1502, ca 1, u.2.2.1), (wz, 142, 1502, ca 1, u.2.2.2.1), (jkf, 144, 1502, ca 1, u.2.2.2.2.1), (jks, 145, 1502, ca 1, u.2.2.2.2.2)]) (jA base)) 0 0 (jA base) := by
  refine Met.ofW (cc := cX4_make) (maxL := 4) (ret := (some .int)) (by decide) rfl ?_
  intro p e s m args below meth c s₁ Bd hml hv
  obtain ⟨rfl, hH0, hX, hG, hg_r0, hg_wk, hg_wi, hg_wz, hg_jkf, hg_jks, hP0, hM0, hp0, hp1⟩ := hv
  have hK := hG.1
  have hx := Bd.exec
  have hb := Bd.bytes
  have hr := Bd.returns
  have hts := atoms_spec (ws := (jw yX4_make cX4_make 4 (some .int))) Bd.pre
  have htw : ∀ w ∈ jWl, w.before _ s = true := fun w h => hts w (List.mem_cons_of_mem _ h)
  have hown : s.vm.findClass RX4 = some m.cls := findClass_of_methodNamed Bd.named
  have hlocks := Bd.notSynchronized
  obtain ⟨Q, hQ⟩ : ∃ Q, Q = MQ below (va_Qi (S := Int32 × (Nat → Int32) × (Nat → Int32) × (Nat → Int32) × (Nat → Int32) × (Nat → Int32)) (fun r u => (((r.toInt = -1 ∧ u.1.toInt = pv.toInt) ∨ (r.toInt = pv.toInt ∧ u.1.toInt = pv.toInt + 1)) ∧ u.1.toInt ≤ 1502 ∧ jMq (fk, fi, fz, fa, fs) (u.2.1, u.2.2.1, u.2.2.2.1, u.2.2.2.2.1, u.2.2.2.2.2) pv.toInt ∧ (r.toInt < 0 ∨ jMv (u.2.1, u.2.2.1, u.2.2.2.1, u.2.2.2.2.1, u.2.2.2.2.2) pv.toInt a1.toInt a2.toInt a3.toInt))) (fun u t => jRt (dC, dI) B base G0 EX4_makeP H0 [(r0, 6, 7, .int u.1)] t.heap ∧ jMc (dC, dI) G0 t.heap [(wk, 140, 1502, ca 1, u.2.1), (wi, 141, 1502, ca 1, u.2.2.1), (wz, 142, 1502, ca 1, u.2.2.2.1), (jkf, 144, 1502, ca 1, u.2.2.2.2.1), (jks, 145, 1502, ca 1, u.2.2.2.2.2)]) (jA base)) ([.ref r0, .int a1, .int a2, .int a3] : List Value).toArray s 0 0 (jA base) := ⟨_, rfl⟩
  rw [← hQ]
  have hl := lv_entry ([.ref r0, .int a1, .int a2, .int a3]) (n := 4) (Nat.le_of_ble_eq_true rfl)
  rw [lg_entry_eq]
  generalize (lg_sl ([.ref r0, .int a1, .int a2, .int a3]) ++ List.replicate (4 - (lg_sl ([.ref r0, .int a1, .int a2, .int a3])).length) Slot.unset).toArray = ls at hl ⊢
  have hl : lv_has ls 4 [(0, .ref r0), (1, .int a1), (2, .int a2), (3, .int a3)] := hl
  generalize hR : (headSpec (jw yX4_make cX4_make 4 (some .int)) ({ frames := 0, cells := 0, slots := 0, locals := 0 })).room = R
  subst hH0
  have hh : jSt (dC, dI) B base G0 G0 EX4_makeP s.heap 0 0 [(r0, 6, 7, .int pv), (r0, 6, 0, .ref wk), (r0, 6, 1, .ref wi), (r0, 6, 2, .ref wz), (r0, 6, 4, .ref jkf), (r0, 6, 5, .ref jks)] [(wk, 140, 1502, ca 1, fk), (wi, 141, 1502, ca 1, fi), (wz, 142, 1502, ca 1, fz), (jkf, 144, 1502, ca 1, fa), (jks, 145, 1502, ca 1, fs)] [] s.heap [] := jSt.start hX hP0 hM0 jIs.nil
  clear hX hP0
  have hkm1 : ((-1) : Int32).toInt = (-1) := by decide
  have hk0 : (0 : Int32).toInt = 0 := by decide
  have hk1 : (1 : Int32).toInt = 1 := by decide
  have hk1502 : (1502 : Int32).toInt = 1502 := by decide
  have hly_6_0 := htw (u_lay RX4 TX4 0) (jWc_wsX40 _ (u_in_lay (by decide)))
  have hly_6_1 := htw (u_lay RX4 TX4 1) (jWc_wsX40 _ (u_in_lay (by decide)))
  have hly_6_2 := htw (u_lay RX4 TX4 2) (jWc_wsX40 _ (u_in_lay (by decide)))
  have hly_6_3 := htw (u_lay RX4 TX4 3) (jWc_wsX40 _ (u_in_lay (by decide)))
  have hly_6_4 := htw (u_lay RX4 TX4 4) (jWc_wsX40 _ (u_in_lay (by decide)))
  have hly_6_5 := htw (u_lay RX4 TX4 5) (jWc_wsX40 _ (u_in_lay (by decide)))
  have hly_6_7 := htw (u_lay RX4 TX4 7) (jWc_wsX40 _ (u_in_lay (by decide)))
  have hlk_50 := (htw (.fieldLink RX4 50 "ProofServer$Json" "values" "I") (jWr_19 _ (List.mem_of_getElem? (i := 13) rfl)))
  have hlk_11 := (htw (.fieldLink RX4 11 "ProofServer$Json" "kinds" "[I") (jWr_3 _ (List.mem_of_getElem? (i := 21) rfl)))
  have hlk_15 := (htw (.fieldLink RX4 15 "ProofServer$Json" "firsts" "[I") (jWr_3 _ (List.mem_of_getElem? (i := 22) rfl)))
  have hlk_18 := (htw (.fieldLink RX4 18 "ProofServer$Json" "sizes" "[I") (jWr_3 _ (List.mem_of_getElem? (i := 23) rfl)))
  have hlk_21 := (htw (.fieldLink RX4 21 "ProofServer$Json" "nexts" "[I") (jWr_4 _ (List.mem_of_getElem? (i := 0) rfl)))
  have hlk_24 := (htw (.fieldLink RX4 24 "ProofServer$Json" "keyFirsts" "[I") (jWr_4 _ (List.mem_of_getElem? (i := 1) rfl)))
  have hlk_27 := (htw (.fieldLink RX4 27 "ProofServer$Json" "keySizes" "[I") (jWr_4 _ (List.mem_of_getElem? (i := 2) rfl)))
  have hrg_a1 := jb_rng a1
  have hrg_a2 := jb_rng a2
  have hrg_a3 := jb_rng a3
  refine lv_aload_n hx hb dX4_make_0 rfl (lv_at hl 0 rfl) ?_
  refine j7_read hx hb hown hK (C := RX4) (T := TX4) (N := 12) rfl hly_6_7 hlk_50 (hh.at 0 rfl) dX4_make_1 ?_
  refine lv_sipush (v := 1502) hx hb dX4_make_4 (by decide) ?_
  refine lv_icmp_lt (tgt := 12) hx hb dX4_make_7 (by decide) (fun c_1 => ?_) (fun c_1 => ?_)
  · skip
    have c_1' : pv.toInt < 1502 := jb_lt (rfl) ((by decide)) c_1
    refine lv_aload_n hx hb dX4_make_12 rfl (lv_at hl 0 rfl) ?_
    refine j7_read hx hb hown hK (C := RX4) (T := TX4) (N := 12) rfl hly_6_0 hlk_11 (hh.at 1 rfl) dX4_make_13 ?_
    refine lv_aload_n hx hb dX4_make_16 rfl (lv_at hl 0 rfl) ?_
    refine j7_read hx hb hown hK (C := RX4) (T := TX4) (N := 12) rfl hly_6_7 hlk_50 (hh.at 0 rfl) dX4_make_17 ?_
    refine lv_iload_n hx hb dX4_make_20 rfl (lv_at hl 1 rfl) ?_
    refine j7_iastU hx hb hK hh hB hB140 1 rfl (by decide) (by decide) rfl 0 rfl (M1 := [(wi, 141, 1502, ca 1, fi), (wz, 142, 1502, ca 1, fz), (jkf, 144, 1502, ca 1, fa), (jks, 145, 1502, ca 1, fs)]) [1, 2, 3, 4] rfl rfl rfl hg_wk (x := pv.toInt) (rfl) (by omega) (trivial) dX4_make_21 (fun H_2 locs_2 fs_3 hv_2 ho_2 hh_2 => ?_)
    have hv_2 : jSo fs_3 (pv.toInt) = a1.toInt := by unfold jSo; rw [hv_2]; try exact rfl
    clear hh
    refine lv_aload_n hx hb dX4_make_22 rfl (lv_at hl 0 rfl) ?_
    refine j7_read hx hb hown hK (C := RX4) (T := TX4) (N := 12) rfl hly_6_1 hlk_15 (hh_2.at 2 rfl) dX4_make_23 ?_
    refine lv_aload_n hx hb dX4_make_26 rfl (lv_at hl 0 rfl) ?_
    refine j7_read hx hb hown hK (C := RX4) (T := TX4) (N := 12) rfl hly_6_7 hlk_50 (hh_2.at 0 rfl) dX4_make_27 ?_
    refine lv_iload_n hx hb dX4_make_30 rfl (lv_at hl 2 rfl) ?_
    refine j7_iastU hx hb hK hh_2 hB hB141 1 rfl (by decide) (by decide) rfl 1 rfl (M1 := [(wk, 140, 1502, ca 1, fs_3), (wz, 142, 1502, ca 1, fz), (jkf, 144, 1502, ca 1, fa), (jks, 145, 1502, ca 1, fs)]) [0, 2, 3, 4] rfl rfl rfl hg_wi (x := pv.toInt) (rfl) (by omega) (trivial) dX4_make_31 (fun H_4 locs_4 fs_5 hv_4 ho_4 hh_4 => ?_)
    have hv_4 : jSo fs_5 (pv.toInt) = a2.toInt := by unfold jSo; rw [hv_4]; try exact rfl
    clear hh_2
    refine lv_aload_n hx hb dX4_make_32 rfl (lv_at hl 0 rfl) ?_
    refine j7_read hx hb hown hK (C := RX4) (T := TX4) (N := 12) rfl hly_6_2 hlk_18 (hh_4.at 3 rfl) dX4_make_33 ?_
    refine lv_aload_n hx hb dX4_make_36 rfl (lv_at hl 0 rfl) ?_
    refine j7_read hx hb hown hK (C := RX4) (T := TX4) (N := 12) rfl hly_6_7 hlk_50 (hh_4.at 0 rfl) dX4_make_37 ?_
    refine lv_iload_n hx hb dX4_make_40 rfl (lv_at hl 3 rfl) ?_
    refine j7_iastU hx hb hK hh_4 hB hB142 1 rfl (by decide) (by decide) rfl 2 rfl (M1 := [(wi, 141, 1502, ca 1, fs_5), (wk, 140, 1502, ca 1, fs_3), (jkf, 144, 1502, ca 1, fa), (jks, 145, 1502, ca 1, fs)]) [0, 1, 3, 4] rfl rfl rfl hg_wz (x := pv.toInt) (rfl) (by omega) (trivial) dX4_make_41 (fun H_6 locs_6 fs_7 hv_6 ho_6 hh_6 => ?_)
    have hv_6 : jSo fs_7 (pv.toInt) = a3.toInt := by unfold jSo; rw [hv_6]; try exact rfl
    clear hh_4
    refine lv_aload_n hx hb dX4_make_42 rfl (lv_at hl 0 rfl) ?_
    obtain ⟨v_8, hv_8, hh_9⟩ := hh_6.pin (C := RX4) (T := TX4) (N := 12) hB6 rfl (by decide) hg_r0 (i := 3) (by decide) rfl
    clear hh_6
    obtain ⟨nexts_10, rfl, hg_nexts_10⟩ := hv_8
    refine j7_read hx hb hown hK (C := RX4) (T := TX4) (N := 12) rfl hly_6_3 hlk_21 (hh_9.at 0 rfl) dX4_make_43 ?_
    refine lv_aload_n hx hb dX4_make_46 rfl (lv_at hl 0 rfl) ?_
    refine j7_read hx hb hown hK (C := RX4) (T := TX4) (N := 12) rfl hly_6_7 hlk_50 (hh_9.at 1 rfl) dX4_make_47 ?_
    refine lv_iconst (v := (-1)) hx hb dX4_make_50 (by decide) ?_
    refine j7_iast hx hb hK hh_9 hB hB143 1 rfl (by decide) (by decide) rfl rfl rfl hg_nexts_10 (x := pv.toInt) (rfl) (by omega) (trivial) dX4_make_51 (fun H_11 locs_11 hh_11 => ?_)
    clear hh_9
    refine lv_aload_n hx hb dX4_make_52 rfl (lv_at hl 0 rfl) ?_
    refine j7_read hx hb hown hK (C := RX4) (T := TX4) (N := 12) rfl hly_6_4 hlk_24 (hh_11.at 5 rfl) dX4_make_53 ?_
    refine lv_aload_n hx hb dX4_make_56 rfl (lv_at hl 0 rfl) ?_
    refine j7_read hx hb hown hK (C := RX4) (T := TX4) (N := 12) rfl hly_6_7 hlk_50 (hh_11.at 1 rfl) dX4_make_57 ?_
    refine lv_iconst (v := 0) hx hb dX4_make_60 (by decide) ?_
    refine j7_iastU hx hb hK hh_11 hB hB144 1 rfl (by decide) (by decide) rfl 3 rfl (M1 := [(wz, 142, 1502, ca 1, fs_7), (wi, 141, 1502, ca 1, fs_5), (wk, 140, 1502, ca 1, fs_3), (jks, 145, 1502, ca 1, fs)]) [0, 1, 2, 4] rfl rfl rfl hg_jkf (x := pv.toInt) (rfl) (by omega) (by first | omega | (refine ⟨?_, ?_⟩ <;> (first | omega | rfl | assumption | decide | exact Or.inl rfl | exact Or.inr rfl | (simp only; omega)))) dX4_make_61 (fun H_12 locs_12 fs_13 hv_12 ho_12 hh_12 => ?_)
    have hv_12 : jSo fs_13 (pv.toInt) = 0 := by unfold jSo; rw [hv_12]; try exact (by decide)
    clear hh_11
    refine lv_aload_n hx hb dX4_make_62 rfl (lv_at hl 0 rfl) ?_
    refine j7_read hx hb hown hK (C := RX4) (T := TX4) (N := 12) rfl hly_6_5 hlk_27 (hh_12.at 6 rfl) dX4_make_63 ?_
    refine lv_aload_n hx hb dX4_make_66 rfl (lv_at hl 0 rfl) ?_
    refine j7_read hx hb hown hK (C := RX4) (T := TX4) (N := 12) rfl hly_6_7 hlk_50 (hh_12.at 1 rfl) dX4_make_67 ?_
    refine lv_iconst (v := 0) hx hb dX4_make_70 (by decide) ?_
    refine j7_iastU hx hb hK hh_12 hB hB145 1 rfl (by decide) (by decide) rfl 4 rfl (M1 := [(jkf, 144, 1502, ca 1, fs_13), (wz, 142, 1502, ca 1, fs_7), (wi, 141, 1502, ca 1, fs_5), (wk, 140, 1502, ca 1, fs_3)]) [0, 1, 2, 3] rfl rfl rfl hg_jks (x := pv.toInt) (rfl) (by omega) (trivial) dX4_make_71 (fun H_14 locs_14 fs_15 hv_14 ho_14 hh_14 => ?_)
    have hv_14 : jSo fs_15 (pv.toInt) = 0 := by unfold jSo; rw [hv_14]; try exact (by decide)
    clear hh_12
    refine lv_aload_n hx hb dX4_make_72 rfl (lv_at hl 0 rfl) ?_
    refine lv_dup hx hb dX4_make_73 rfl ?_
    refine j7_read hx hb hown hK (C := RX4) (T := TX4) (N := 12) rfl hly_6_7 hlk_50 (hh_14.at 1 rfl) dX4_make_74 ?_
    refine lv_iconst (v := 1) hx hb dX4_make_77 (by decide) ?_
    refine lv_iadd hx hb dX4_make_78 ?_
    refine lv_topi (fun z_16 ez_16 => ?_)
    have hz_16 : z_16.toInt = pv.toInt + 1 := by rw [ez_16]; exact jb_iadd2 (rfl) ((by decide)) (by omega)
    refine j7_put hx hb hown hK hh_14 hB hAp hB6 (C := RX4) (T := TX4) (N := 12) rfl (by decide) hg_r0 (i := 7) (by decide) hly_6_7 rfl hlk_50 rfl (ty := .int) (v := .int z_16) (by decide +kernel) rfl rfl (⟨_, rfl, by omega, by omega⟩) rfl (L1 := [(r0, 6, 3, .ref nexts_10), (r0, 6, 0, .ref wk), (r0, 6, 1, .ref wi), (r0, 6, 2, .ref wz), (r0, 6, 4, .ref jkf), (r0, 6, 5, .ref jks)]) [0, 2, 3, 4, 5, 6] rfl rfl rfl dX4_make_79 (fun H_17 locs_17 hh_17 => ?_)
    clear hh_14
    refine lv_aload_n hx hb dX4_make_82 rfl (lv_at hl 0 rfl) ?_
    refine j7_read hx hb hown hK (C := RX4) (T := TX4) (N := 12) rfl hly_6_7 hlk_50 (hh_17.at 0 rfl) dX4_make_83 ?_
    refine lv_iconst (v := 1) hx hb dX4_make_86 (by decide) ?_
    refine lv_isub hx hb dX4_make_87 ?_
    refine lv_topi (fun z_18 ez_18 => ?_)
    have hz_18 : z_18.toInt = z_16.toInt - 1 := by rw [ez_18]; exact jb_isub2 (rfl) ((by decide)) (by omega)
    rw [hQ]
    exact W.iret (v := z_18) hx hb hr (fun t ht hW => ⟨⟨z_18, (z_16, fs_3, fs_5, fs_7, fs_13, fs_15), rfl, by (try dsimp only); exact ⟨by omega, by omega, fun i a b => ⟨jst ho_2 i a (by omega) (by omega) (by omega), jst ho_4 i a (by omega) (by omega) (by omega), jst ho_6 i a (by omega) (by omega) (by omega), jst ho_12 i a (by omega) (by omega) (by omega), jst ho_14 i a (by omega) (by omega) (by omega)⟩, Or.inr ⟨hv_2, hv_4, hv_6, hv_14, hv_12⟩⟩, ⟨hh_17.rt (M1 := [(r0, 6, 7, .int z_16)]) [0] rfl ht, by rw [ht]; exact hh_17.2.2.2.2.2.2.2.1.sub [4, 3, 2, 1, 0] rfl⟩⟩, by rw [ht]; try exact hh_17.1.1, fun q h9 hq => by rw [ht]; try exact hh_17.1.2.1 q h9 hq⟩) hh_17.1.2.2 dX4_make_88
  · skip
    have c_1' : pv.toInt ≥ 1502 := jb_lt_n (rfl) ((by decide)) c_1
    refine lv_iconst (v := (-1)) hx hb dX4_make_10 (by decide) ?_
    rw [hQ]
    exact W.iret (v := (-1)) hx hb hr (fun t ht hW => ⟨⟨(-1), (pv, fk, fi, fz, fa, fs), rfl, by (try dsimp only); exact ⟨by omega, by omega, fun i _ _ => ⟨rfl, rfl, rfl, rfl, rfl⟩, by omega⟩, ⟨hh.rt (M1 := [(r0, 6, 7, .int pv)]) [0] rfl ht, by rw [ht]; exact hh.2.2.2.2.2.2.2.1.sub [0, 1, 2, 3, 4] rfl⟩⟩, by rw [ht]; try exact hh.1.1, fun q h9 hq => by rw [ht]; try exact hh.1.2.1 q h9 hq⟩) hh.1.2.2 dX4_make_11
set_option maxHeartbeats 4000000 in
set_option maxRecDepth 20000 in
theorem uX4_addUnitP (l : Launch) (dC : Nat → ClassId) (dI : Nat → Nat → Nat) (ca : Nat → ClassId) (base : Nat) (B : jF) (hB : jBok B) (hAp : jAp (dC, dI)) (hB6 : ∀ n G a H, B 6 n G a H ↔ jOb (dC, dI) 6 12 (F6 n G) a H) (hB146 : ∀ n G a H, B 146 n G a H ↔ jAr (dC, dI) (ca 1) (fun j z => True) n a H) (G0 : jT) (H0 : Heap) (r0 : Nat) (a1 : Int32) (pu : Int32) : Met l yX4_addUnit (jw yX4_addUnit cX4_addUnit 2 none) ({ frames := 0, cells := 0, slots := 0, locals := 0 }) (va_Pc [.ref r0, .int a1] (fun U => U.heap = H0 ∧ jX B base G0 [] H0 ∧ jG dC dI ca base U ∧ G0 r0 = some (6, 0) ∧ jP (dC, dI) G0 H0 [(r0, 6, 8, .int pu)] ∧ 0 ≤ pu.toInt ∧ pu.toInt ≤ 3000)) (va_Qv (S := Int32) (fun u => pu.toInt ≤ u.toInt ∧ u.toInt ≤ pu.toInt + 1 ∧ u.toInt ≤ 3000) (fun u t => jRt (dC, dI) B base G0 EX4_addUnitP H0 [(r0, 6, 8, .int u)] t.heap) (jA base)) 0 0 (jA base) := by
  refine Met.ofW (cc := cX4_addUnit) (maxL := 2) (ret := none) (by decide) rfl ?_
  intro p e s m args below meth c s₁ Bd hml hv
  obtain ⟨rfl, hH0, hX, hG, hg_r0, hP0, hp0, hp1⟩ := hv
  have hK := hG.1
  have hx := Bd.exec
  have hb := Bd.bytes
  have hr := Bd.returns
  have hts := atoms_spec (ws := (jw yX4_addUnit cX4_addUnit 2 none)) Bd.pre
  have htw : ∀ w ∈ jWl, w.before _ s = true := fun w h => hts w (List.mem_cons_of_mem _ h)
  have hown : s.vm.findClass RX4 = some m.cls := findClass_of_methodNamed Bd.named
  have hlocks := Bd.notSynchronized
  obtain ⟨Q, hQ⟩ : ∃ Q, Q = MQ below (va_Qv (S := Int32) (fun u => pu.toInt ≤ u.toInt ∧ u.toInt ≤ pu.toInt + 1 ∧ u.toInt ≤ 3000) (fun u t => jRt (dC, dI) B base G0 EX4_addUnitP H0 [(r0, 6, 8, .int u)] t.heap) (jA base)) ([.ref r0, .int a1] : List Value).toArray s 0 0 (jA base) := ⟨_, rfl⟩
  rw [← hQ]
  have hl := lv_entry ([.ref r0, .int a1]) (n := 2) (Nat.le_of_ble_eq_true rfl)
  rw [lg_entry_eq]
  generalize (lg_sl ([.ref r0, .int a1]) ++ List.replicate (2 - (lg_sl ([.ref r0, .int a1])).length) Slot.unset).toArray = ls at hl ⊢
  have hl : lv_has ls 2 [(0, .ref r0), (1, .int a1)] := hl
  generalize hR : (headSpec (jw yX4_addUnit cX4_addUnit 2 none) ({ frames := 0, cells := 0, slots := 0, locals := 0 })).room = R
  subst hH0
  have hh : jSt (dC, dI) B base G0 G0 EX4_addUnitP s.heap 0 0 [(r0, 6, 8, .int pu)] [] [] s.heap [] := jSt.start hX hP0 jMc.nil jIs.nil
  clear hX hP0
  have hk0 : (0 : Int32).toInt = 0 := by decide
  have hk1 : (1 : Int32).toInt = 1 := by decide
  have hly_6_6 := htw (u_lay RX4 TX4 6) (jWc_wsX40 _ (u_in_lay (by decide)))
  have hly_6_8 := htw (u_lay RX4 TX4 8) (jWc_wsX40 _ (u_in_lay (by decide)))
  have hlk_53 := (htw (.fieldLink RX4 53 "ProofServer$Json" "unitCount" "I") (jWr_19 _ (List.mem_of_getElem? (i := 14) rfl)))
  have hlk_30 := (htw (.fieldLink RX4 30 "ProofServer$Json" "units" "[I") (jWr_4 _ (List.mem_of_getElem? (i := 3) rfl)))
  have hrg_a1 := jb_rng a1
  refine lv_aload_n hx hb dX4_addUnit_0 rfl (lv_at hl 0 rfl) ?_
  refine j7_read hx hb hown hK (C := RX4) (T := TX4) (N := 12) rfl hly_6_8 hlk_53 (hh.at 0 rfl) dX4_addUnit_1 ?_
  refine lv_aload_n hx hb dX4_addUnit_4 rfl (lv_at hl 0 rfl) ?_
  obtain ⟨v_1, hv_1, hh_2⟩ := hh.pin (C := RX4) (T := TX4) (N := 12) hB6 rfl (by decide) hg_r0 (i := 6) (by decide) rfl
  clear hh
  obtain ⟨units_3, rfl, hg_units_3⟩ := hv_1
  refine j7_read hx hb hown hK (C := RX4) (T := TX4) (N := 12) rfl hly_6_6 hlk_30 (hh_2.at 0 rfl) dX4_addUnit_5 ?_
  refine j7_len hx hb hK hh_2 hB146 1 rfl (by decide) hg_units_3 (by omega) dX4_addUnit_8 (fun z_4 hz_4 => ?_)
  refine lv_icmp_ge (tgt := 32) hx hb dX4_addUnit_9 (by decide) (fun c_5 => ?_) (fun c_5 => ?_)
  · skip
    have c_5' : pu.toInt ≥ z_4.toInt := jb_ge (rfl) (rfl) c_5
    rw [hQ]
    exact W.vret hx hb hr (fun t ht hW => ⟨⟨pu, rfl, by first | omega | (refine ⟨?_, ?_, ?_⟩ <;> (first | omega | rfl | assumption | decide | exact Or.inl rfl | exact Or.inr rfl | (simp only; omega))), hh_2.rt (M1 := [(r0, 6, 8, .int pu)]) [1] rfl ht⟩, by rw [ht]; try exact hh_2.1.1, fun q h9 hq => by rw [ht]; try exact hh_2.1.2.1 q h9 hq⟩) hh_2.1.2.2 dX4_addUnit_32
  · skip
    have c_5' : pu.toInt < z_4.toInt := jb_ge_n (rfl) (rfl) c_5
    refine lv_aload_n hx hb dX4_addUnit_12 rfl (lv_at hl 0 rfl) ?_
    refine j7_read hx hb hown hK (C := RX4) (T := TX4) (N := 12) rfl hly_6_6 hlk_30 (hh_2.at 0 rfl) dX4_addUnit_13 ?_
    refine lv_aload_n hx hb dX4_addUnit_16 rfl (lv_at hl 0 rfl) ?_
    refine j7_read hx hb hown hK (C := RX4) (T := TX4) (N := 12) rfl hly_6_8 hlk_53 (hh_2.at 1 rfl) dX4_addUnit_17 ?_
    refine lv_iload_n hx hb dX4_addUnit_20 rfl (lv_at hl 1 rfl) ?_
    refine j7_iast hx hb hK hh_2 hB hB146 1 rfl (by decide) (by decide) rfl rfl rfl hg_units_3 (x := pu.toInt) (rfl) (by omega) (trivial) dX4_addUnit_21 (fun H_6 locs_6 hh_6 => ?_)
    clear hh_2
    refine lv_aload_n hx hb dX4_addUnit_22 rfl (lv_at hl 0 rfl) ?_
    refine lv_dup hx hb dX4_addUnit_23 rfl ?_
    refine j7_read hx hb hown hK (C := RX4) (T := TX4) (N := 12) rfl hly_6_8 hlk_53 (hh_6.at 1 rfl) dX4_addUnit_24 ?_
    refine lv_iconst (v := 1) hx hb dX4_addUnit_27 (by decide) ?_
    refine lv_iadd hx hb dX4_addUnit_28 ?_
    refine lv_topi (fun z_7 ez_7 => ?_)
    have hz_7 : z_7.toInt = pu.toInt + 1 := by rw [ez_7]; exact jb_iadd2 (rfl) ((by decide)) (by omega)
    refine j7_put hx hb hown hK hh_6 hB hAp hB6 (C := RX4) (T := TX4) (N := 12) rfl (by decide) hg_r0 (i := 8) (by decide) hly_6_8 rfl hlk_53 rfl (ty := .int) (v := .int z_7) (by decide +kernel) rfl rfl (⟨_, rfl, by omega, by omega⟩) rfl (L1 := [(r0, 6, 6, .ref units_3)]) [0] rfl rfl rfl dX4_addUnit_29 (fun H_8 locs_8 hh_8 => ?_)
    clear hh_6
    rw [hQ]
    exact W.vret hx hb hr (fun t ht hW => ⟨⟨z_7, rfl, by first | omega | (refine ⟨?_, ?_, ?_⟩ <;> (first | omega | rfl | assumption | decide | exact Or.inl rfl | exact Or.inr rfl | (simp only; omega))), hh_8.rt (M1 := [(r0, 6, 8, .int z_7)]) [0] rfl ht⟩, by rw [ht]; try exact hh_8.1.1, fun q h9 hq => by rw [ht]; try exact hh_8.1.2.1 q h9 hq⟩) hh_8.1.2.2 dX4_addUnit_32
set_option maxHeartbeats 4000000 in
set_option maxRecDepth 20000 in
theorem uX4_addCharP (l : Launch) (dC : Nat → ClassId) (dI : Nat → Nat → Nat) (ca : Nat → ClassId) (base : Nat) (B : jF) (hB : jBok B) (hAp : jAp (dC, dI)) (hB6 : ∀ n G a H, B 6 n G a H ↔ jOb (dC, dI) 6 12 (F6 n G) a H) (hB146 : ∀ n G a H, B 146 n G a H ↔ jAr (dC, dI) (ca 1) (fun j z => True) n a H) (G0 : jT) (H0 : Heap) (r0 : Nat) (a1 : Int32) (pu : Int32) : Met l yX4_addChar (jw yX4_addChar cX4_addChar 2 none) ({ frames := 1, cells := 0, slots := 0, locals := 21 }) (va_Pc [.ref r0, .int a1] (fun U => U.heap = H0 ∧ jX B base G0 [] H0 ∧ jG dC dI ca base U ∧ G0 r0 = some (6, 0) ∧ jP (dC, dI) G0 H0 [(r0, 6, 8, .int pu)] ∧ 0 ≤ pu.toInt ∧ pu.toInt ≤ 3000)) (va_Qv (S := Int32) (fun u => pu.toInt ≤ u.toInt ∧ u.toInt ≤ pu.toInt + 2 ∧ u.toInt ≤ 3000 ∧ (65536 ≤ a1.toInt ∨ u.toInt ≤ pu.toInt + 1)) (fun u t => jRt (dC, dI) B base G0 EX4_addCharP H0 [(r0, 6, 8, .int u)] t.heap) (jA base)) 0 0 (jA base) := by
  refine Met.ofW (cc := cX4_addChar) (maxL := 2) (ret := none) (by decide) rfl ?_
  intro p e s m args below meth c s₁ Bd hml hv
  obtain ⟨rfl, hH0, hX, hG, hg_r0, hP0, hp0, hp1⟩ := hv
  have hK := hG.1
  have hx := Bd.exec
  have hb := Bd.bytes
  have hr := Bd.returns
  have hts := atoms_spec (ws := (jw yX4_addChar cX4_addChar 2 none)) Bd.pre
  have htw : ∀ w ∈ jWl, w.before _ s = true := fun w h => hts w (List.mem_cons_of_mem _ h)
  have hown : s.vm.findClass RX4 = some m.cls := findClass_of_methodNamed Bd.named
  have hlocks := Bd.notSynchronized
  obtain ⟨Q, hQ⟩ : ∃ Q, Q = MQ below (va_Qv (S := Int32) (fun u => pu.toInt ≤ u.toInt ∧ u.toInt ≤ pu.toInt + 2 ∧ u.toInt ≤ 3000 ∧ (65536 ≤ a1.toInt ∨ u.toInt ≤ pu.toInt + 1)) (fun u t => jRt (dC, dI) B base G0 EX4_addCharP H0 [(r0, 6, 8, .int u)] t.heap) (jA base)) ([.ref r0, .int a1] : List Value).toArray s 0 0 (jA base) := ⟨_, rfl⟩
  rw [← hQ]
  have hl := lv_entry ([.ref r0, .int a1]) (n := 2) (Nat.le_of_ble_eq_true rfl)
  rw [lg_entry_eq]
  generalize (lg_sl ([.ref r0, .int a1]) ++ List.replicate (2 - (lg_sl ([.ref r0, .int a1])).length) Slot.unset).toArray = ls at hl ⊢
  have hl : lv_has ls 2 [(0, .ref r0), (1, .int a1)] := hl
  generalize hR : (headSpec (jw yX4_addChar cX4_addChar 2 none) ({ frames := 1, cells := 0, slots := 0, locals := 21 })).room = R
  subst hH0
  have hh : jSt (dC, dI) B base G0 G0 EX4_addCharP s.heap 0 0 [(r0, 6, 8, .int pu)] [] [] s.heap [] := jSt.start hX hP0 jMc.nil jIs.nil
  clear hX hP0
  have hk0 : (0 : Int32).toInt = 0 := by decide
  have hk1 : (1 : Int32).toInt = 1 := by decide
  have hk10 : (10 : Int32).toInt = 10 := by decide
  have hk1023 : (1023 : Int32).toInt = 1023 := by decide
  have hk55296 : (55296 : Int32).toInt = 55296 := by decide
  have hk56320 : (56320 : Int32).toInt = 56320 := by decide
  have hk65536 : (65536 : Int32).toInt = 65536 := by decide
  have hcs_161 := htw (.constant RX4 161 65536) (jWr_22 _ (List.mem_of_getElem? (i := 7) rfl))
  have hcs_162 := htw (.constant RX4 162 55296) (jWr_22 _ (List.mem_of_getElem? (i := 8) rfl))
  have hcs_166 := htw (.constant RX4 166 56320) (jWr_22 _ (List.mem_of_getElem? (i := 9) rfl))
  have hrg_a1 := jb_rng a1
  refine lv_iload_n hx hb dX4_addChar_0 rfl (lv_at hl 1 rfl) ?_
  refine lv_ldc hx hb hown hcs_161 dX4_addChar_1 ?_
  refine lv_icmp_lt (tgt := 38) hx hb dX4_addChar_3 (by decide) (fun c_1 => ?_) (fun c_1 => ?_)
  · skip
    have c_1' : a1.toInt < 65536 := jb_lt (rfl) ((by decide)) c_1
    refine lv_aload_n hx hb dX4_addChar_38 rfl (lv_at hl 0 rfl) ?_
    refine lv_iload_n hx hb dX4_addChar_39 rfl (lv_at hl 1 rfl) ?_
    refine va_callv (A0 := jA base) (H0 := s.heap) (va_runV (As := [.int a1]) (rest := []) ⟨hx, hb, hml, hown, hts⟩ (uX4_addUnitP l dC dI ca base B hB hAp hB6 hB146 G0 s.heap r0 a1 pu) (cwV 1 hts (jgV (jWr_21 _ (List.mem_of_getElem? (i := 13) rfl)) (jWr_21 _ (List.mem_of_getElem? (i := 14) rfl)) (jWr_21 _ (List.mem_of_getElem? (i := 15) rfl)) (jWr_1 _ (List.mem_of_getElem? (i := 22) rfl)) (jWr_21 _ (List.mem_of_getElem? (i := 16) rfl))) rfl rfl rfl (by decide +kernel) ⟨by rw [← hR]; exact Nat.le_of_ble_eq_true rfl, by rw [← hR]; exact Nat.le_of_ble_eq_true rfl⟩) ⟨fun a U g mk q => by obtain ⟨q0, q1, q2, qK, q10, q11, q12⟩ := q; exact ⟨q0, q1, q2, jG.calling g mk a qK, q10, q11, q12⟩, hh.recv (C := RX4) (T := TX4) (N := 12) hB6 rfl (by decide) hg_r0 hK, fun U hU hW => ⟨rfl, hU, hh.2.1, hG.step hW hU hh.1, hg_r0, (hh.2.2.1.sub (L1 := [(r0, 6, 8, .int pu)]) [0] rfl), by first | omega | (refine ⟨?_, ?_⟩ <;> (first | omega | rfl | assumption | decide | exact Or.inl rfl | exact Or.inr rfl | (simp only; omega)))⟩⟩ rfl rfl hl.1 rfl (lv_room (Nat.le_of_ble_eq_true rfl)) dX4_addChar_40 ⟨Nat.zero_le _, Nat.zero_le _⟩) hh.1 (fun q _ h => h) (fun q h => h) (fun u_2 t_2 H_2 locs_2 ht_2 hvm_2 hr_3 hb_2 hz_2 hk_2 hS_2 => ?_)
    obtain ⟨qu_2, rfl⟩ : ∃ z, z = u_2 := ⟨_, rfl⟩
    rw [ht_2] at hb_2
    obtain ⟨hb_21, hb_22, hb_23, hb_24, hb_25⟩ := hb_2
    have hh_2 : jSt (dC, dI) B base G0 G0 EX4_addCharP s.heap 0 0 [(r0, 6, 8, .int qu_2)] [] [] H_2 locs_2 := ((hh.call hb_21 hb_22 hb_23 hb_24 hS_2 rfl (L1 := []) [] rfl rfl (M1 := []) [] rfl rfl (I1 := []) [] rfl rfl).more hb_25)
    clear hh ht_2 hvm_2 hz_2 hk_2 hS_2 hb_21 hb_22 hb_23 hb_24 hb_25
    obtain ⟨hr_3_0, hr_3_1, hr_3_2⟩ := hr_3
    rw [hQ]
    exact W.vret hx hb hr (fun t ht hW => ⟨⟨qu_2, rfl, by first | omega | (refine ⟨?_, ?_, ?_, ?_⟩ <;> (first | omega | rfl | assumption | decide | exact Or.inl rfl | exact Or.inr rfl | (simp only; omega))), hh_2.rt (M1 := [(r0, 6, 8, .int qu_2)]) [0] rfl ht⟩, by rw [ht]; try exact hh_2.1.1, fun q h9 hq => by rw [ht]; try exact hh_2.1.2.1 q h9 hq⟩) hh_2.1.2.2 dX4_addChar_43
  · skip
    have c_1' : a1.toInt ≥ 65536 := jb_lt_n (rfl) ((by decide)) c_1
    refine lv_aload_n hx hb dX4_addChar_6 rfl (lv_at hl 0 rfl) ?_
    refine lv_ldc hx hb hown hcs_162 dX4_addChar_7 ?_
    refine lv_iload_n hx hb dX4_addChar_9 rfl (lv_at hl 1 rfl) ?_
    refine lv_ldc hx hb hown hcs_161 dX4_addChar_10 ?_
    refine lv_isub hx hb dX4_addChar_12 ?_
    refine lv_topi (fun z_4 ez_4 => ?_)
    refine lv_bipush (v := 10) hx hb dX4_addChar_13 (by decide) ?_
    refine lv_ishr hx hb dX4_addChar_15 ?_
    refine lv_topi (fun z_5 ez_5 => ?_)
    have hz_5 : z_5.toInt = z_4.toInt / 2 ^ 10 := by rw [ez_5]; exact jb_ishr 10 (rfl) (by decide)
    refine lv_iadd hx hb dX4_addChar_16 ?_
    refine lv_topi (fun z_6 ez_6 => ?_)
    refine va_callv (A0 := jA base) (H0 := s.heap) (va_runV (As := [.int z_6]) (rest := []) ⟨hx, hb, hml, hown, hts⟩ (uX4_addUnitP l dC dI ca base B hB hAp hB6 hB146 G0 s.heap r0 z_6 pu) (cwV 1 hts (jgV (jWr_21 _ (List.mem_of_getElem? (i := 13) rfl)) (jWr_21 _ (List.mem_of_getElem? (i := 14) rfl)) (jWr_21 _ (List.mem_of_getElem? (i := 15) rfl)) (jWr_1 _ (List.mem_of_getElem? (i := 22) rfl)) (jWr_21 _ (List.mem_of_getElem? (i := 16) rfl))) rfl rfl rfl (by decide +kernel) ⟨by rw [← hR]; exact Nat.le_of_ble_eq_true rfl, by rw [← hR]; exact Nat.le_of_ble_eq_true rfl⟩) ⟨fun a U g mk q => by obtain ⟨q0, q1, q2, qK, q10, q11, q12⟩ := q; exact ⟨q0, q1, q2, jG.calling g mk a qK, q10, q11, q12⟩, hh.recv (C := RX4) (T := TX4) (N := 12) hB6 rfl (by decide) hg_r0 hK, fun U hU hW => ⟨rfl, hU, hh.2.1, hG.step hW hU hh.1, hg_r0, (hh.2.2.1.sub (L1 := [(r0, 6, 8, .int pu)]) [0] rfl), by first | omega | (refine ⟨?_, ?_⟩ <;> (first | omega | rfl | assumption | decide | exact Or.inl rfl | exact Or.inr rfl | (simp only; omega)))⟩⟩ rfl rfl hl.1 rfl (lv_room (Nat.le_of_ble_eq_true rfl)) dX4_addChar_17 ⟨Nat.zero_le _, Nat.zero_le _⟩) hh.1 (fun q _ h => h) (fun q h => h) (fun u_7 t_7 H_7 locs_7 ht_7 hvm_7 hr_8 hb_7 hz_7 hk_7 hS_7 => ?_)
    obtain ⟨qu_7, rfl⟩ : ∃ z, z = u_7 := ⟨_, rfl⟩
    rw [ht_7] at hb_7
    obtain ⟨hb_71, hb_72, hb_73, hb_74, hb_75⟩ := hb_7
    have hh_7 : jSt (dC, dI) B base G0 G0 EX4_addCharP s.heap 0 0 [(r0, 6, 8, .int qu_7)] [] [] H_7 locs_7 := ((hh.call hb_71 hb_72 hb_73 hb_74 hS_7 rfl (L1 := []) [] rfl rfl (M1 := []) [] rfl rfl (I1 := []) [] rfl rfl).more hb_75)
    clear hh ht_7 hvm_7 hz_7 hk_7 hS_7 hb_71 hb_72 hb_73 hb_74 hb_75
    obtain ⟨hr_8_0, hr_8_1, hr_8_2⟩ := hr_8
    refine lv_aload_n hx hb dX4_addChar_20 rfl (lv_at hl 0 rfl) ?_
    refine lv_ldc hx hb hown hcs_166 dX4_addChar_21 ?_
    refine lv_iload_n hx hb dX4_addChar_23 rfl (lv_at hl 1 rfl) ?_
    refine lv_ldc hx hb hown hcs_161 dX4_addChar_24 ?_
    refine lv_isub hx hb dX4_addChar_26 ?_
    refine lv_topi (fun z_9 ez_9 => ?_)
    refine lv_sipush (v := 1023) hx hb dX4_addChar_27 (by decide) ?_
    refine lv_iand hx hb dX4_addChar_30 ?_
    refine lv_topi (fun z_10 ez_10 => ?_)
    have hz_10 : 0 ≤ z_10.toInt ∧ z_10.toInt ≤ 1023 := by rw [ez_10]; exact jb_and z_9 (m := 1023) (k := 10) (by decide) (by decide)
    refine lv_iadd hx hb dX4_addChar_31 ?_
    refine lv_topi (fun z_11 ez_11 => ?_)
    refine va_callv (A0 := jA base) (H0 := s.heap) (va_runV (As := [.int z_11]) (rest := []) ⟨hx, hb, hml, hown, hts⟩ (uX4_addUnitP l dC dI ca base B hB hAp hB6 hB146 G0 H_7 r0 z_11 qu_7) (cwV 1 hts (jgV (jWr_21 _ (List.mem_of_getElem? (i := 13) rfl)) (jWr_21 _ (List.mem_of_getElem? (i := 14) rfl)) (jWr_21 _ (List.mem_of_getElem? (i := 15) rfl)) (jWr_1 _ (List.mem_of_getElem? (i := 22) rfl)) (jWr_21 _ (List.mem_of_getElem? (i := 16) rfl))) rfl rfl rfl (by decide +kernel) ⟨by rw [← hR]; exact Nat.le_of_ble_eq_true rfl, by rw [← hR]; exact Nat.le_of_ble_eq_true rfl⟩) ⟨fun a U g mk q => by obtain ⟨q0, q1, q2, qK, q10, q11, q12⟩ := q; exact ⟨q0, q1, q2, jG.calling g mk a qK, q10, q11, q12⟩, hh_7.recv (C := RX4) (T := TX4) (N := 12) hB6 rfl (by decide) hg_r0 hK, fun U hU hW => ⟨rfl, hU, hh_7.2.1, hG.step hW hU hh_7.1, hg_r0, (hh_7.2.2.1.sub (L1 := [(r0, 6, 8, .int qu_7)]) [0] rfl), by first | omega | (refine ⟨?_, ?_⟩ <;> (first | omega | rfl | assumption | decide | exact Or.inl rfl | exact Or.inr rfl | (simp only; omega)))⟩⟩ rfl rfl hl.1 rfl (lv_room (Nat.le_of_ble_eq_true rfl)) dX4_addChar_32 ⟨Nat.zero_le _, Nat.zero_le _⟩) hh_7.1 (fun q _ h => h) (fun q h => h) (fun u_12 t_12 H_12 locs_12 ht_12 hvm_12 hr_13 hb_12 hz_12 hk_12 hS_12 => ?_)
    obtain ⟨qu_12, rfl⟩ : ∃ z, z = u_12 := ⟨_, rfl⟩
    rw [ht_12] at hb_12
    obtain ⟨hb_121, hb_122, hb_123, hb_124, hb_125⟩ := hb_12
    have hh_12 : jSt (dC, dI) B base G0 G0 EX4_addCharP s.heap 0 0 [(r0, 6, 8, .int qu_12)] [] [] H_12 locs_12 := ((hh_7.call hb_121 hb_122 hb_123 hb_124 hS_12 rfl (L1 := []) [] rfl rfl (M1 := []) [] rfl rfl (I1 := []) [] rfl rfl).more hb_125)
    clear hh_7 ht_12 hvm_12 hz_12 hk_12 hS_12 hb_121 hb_122 hb_123 hb_124 hb_125
    obtain ⟨hr_13_0, hr_13_1, hr_13_2⟩ := hr_13
    refine lv_goto (tgt := 43) hx hb dX4_addChar_35 (by decide) ?_
    rw [hQ]
    exact W.vret hx hb hr (fun t ht hW => ⟨⟨qu_12, rfl, by first | omega | (refine ⟨?_, ?_, ?_, ?_⟩ <;> (first | omega | rfl | assumption | decide | exact Or.inl rfl | exact Or.inr rfl | (simp only; omega))), hh_12.rt (M1 := [(r0, 6, 8, .int qu_12)]) [0] rfl ht⟩, by rw [ht]; try exact hh_12.1.1, fun q h9 hq => by rw [ht]; try exact hh_12.1.2.1 q h9 hq⟩) hh_12.1.2.2 dX4_addChar_43
set_option maxHeartbeats 4000000 in
set_option maxRecDepth 20000 in
theorem uX4_fourDigitsP (l : Launch) (dC : Nat → ClassId) (dI : Nat → Nat → Nat) (ca : Nat → ClassId) (base : Nat) (B : jF) (hB : jBok B) (hAp : jAp (dC, dI)) (hB6 : ∀ n G a H, B 6 n G a H ↔ jOb (dC, dI) 6 12 (F6 n G) a H) (hB100 : ∀ n G a H, B 100 n G a H ↔ jAr (dC, dI) (ca 0) (fun j z => True) n a H) (G0 : jT) (H0 : Heap) (r0 : Nat) (rb : Nat) (n_rb : Nat) (pe : Int32) (pt : Int32) : Met l yX4_fourDigits (jw yX4_fourDigits cX4_fourDigits 6 (some .int)) ({ frames := 0, cells := 0, slots := 0, locals := 0 }) (va_Pc [.ref r0] (fun U => U.heap = H0 ∧ jX B base G0 [] H0 ∧ jG dC dI ca base U ∧ G0 r0 = some (6, 0) ∧ G0 rb = some (100, n_rb) ∧ jP (dC, dI) G0 H0 [(r0, 6, 9, .ref rb), (r0, 6, 10, .int pe), (r0, 6, 11, .int pt)] ∧ 0 ≤ pe.toInt ∧ pe.toInt ≤ n_rb ∧ n_rb ≤ 3000 ∧ 0 ≤ pt.toInt ∧ pt.toInt ≤ 19000 ∧ pt.toInt ≤ pe.toInt)) (va_Qi (S := Int32) (fun r u => (pt.toInt ≤ u.toInt ∧ u.toInt ≤ pe.toInt ∧ (r.toInt = -1 ∨ u.toInt = pt.toInt + 4))) (fun u t => jRt (dC, dI) B base G0 EX4_fourDigitsP H0 [(r0, 6, 11, .int u)] t.heap) (jA base)) 0 0 (jA base) := by
  refine Met.ofW (cc := cX4_fourDigits) (maxL := 6) (ret := (some .int)) (by decide) rfl ?_
  intro p e s m args below meth c s₁ Bd hml hv
  obtain ⟨rfl, hH0, hX, hG, hg_r0, hg_rb, hP0, hp0, hp1, hp2, hp3, hp4, hp5⟩ := hv
  have hK := hG.1
  have hx := Bd.exec
  have hb := Bd.bytes
  have hr := Bd.returns
  have hts := atoms_spec (ws := (jw yX4_fourDigits cX4_fourDigits 6 (some .int))) Bd.pre
  have htw : ∀ w ∈ jWl, w.before _ s = true := fun w h => hts w (List.mem_cons_of_mem _ h)
  have hown : s.vm.findClass RX4 = some m.cls := findClass_of_methodNamed Bd.named
  have hlocks := Bd.notSynchronized
  obtain ⟨Q, hQ⟩ : ∃ Q, Q = MQ below (va_Qi (S := Int32) (fun r u => (pt.toInt ≤ u.toInt ∧ u.toInt ≤ pe.toInt ∧ (r.toInt = -1 ∨ u.toInt = pt.toInt + 4))) (fun u t => jRt (dC, dI) B base G0 EX4_fourDigitsP H0 [(r0, 6, 11, .int u)] t.heap) (jA base)) ([.ref r0] : List Value).toArray s 0 0 (jA base) := ⟨_, rfl⟩
  rw [← hQ]
  have hl := lv_entry ([.ref r0]) (n := 6) (Nat.le_of_ble_eq_true rfl)
  rw [lg_entry_eq]
  generalize (lg_sl ([.ref r0]) ++ List.replicate (6 - (lg_sl ([.ref r0])).length) Slot.unset).toArray = ls at hl ⊢
  have hl : lv_has ls 6 [(0, .ref r0)] := hl
  generalize hR : (headSpec (jw yX4_fourDigits cX4_fourDigits 6 (some .int)) ({ frames := 0, cells := 0, slots := 0, locals := 0 })).room = R
  subst hH0
  have hh : jSt (dC, dI) B base G0 G0 EX4_fourDigitsP s.heap 0 0 [(r0, 6, 9, .ref rb), (r0, 6, 10, .int pe), (r0, 6, 11, .int pt)] [] [] s.heap [] := jSt.start hX hP0 jMc.nil jIs.nil
  clear hX hP0
  have hkm1 : ((-1) : Int32).toInt = (-1) := by decide
  have hk0 : (0 : Int32).toInt = 0 := by decide
  have hk1 : (1 : Int32).toInt = 1 := by decide
  have hk4 : (4 : Int32).toInt = 4 := by decide
  have hk10 : (10 : Int32).toInt = 10 := by decide
  have hk32 : (32 : Int32).toInt = 32 := by decide
  have hk48 : (48 : Int32).toInt = 48 := by decide
  have hk57 : (57 : Int32).toInt = 57 := by decide
  have hk65 : (65 : Int32).toInt = 65 := by decide
  have hk70 : (70 : Int32).toInt = 70 := by decide
  have hk97 : (97 : Int32).toInt = 97 := by decide
  have hk102 : (102 : Int32).toInt = 102 := by decide
  have hly_6_9 := htw (u_lay RX4 TX4 9) (jWc_wsX40 _ (u_in_lay (by decide)))
  have hly_6_10 := htw (u_lay RX4 TX4 10) (jWc_wsX40 _ (u_in_lay (by decide)))
  have hly_6_11 := htw (u_lay RX4 TX4 11) (jWc_wsX40 _ (u_in_lay (by decide)))
  have hlk_47 := (htw (.fieldLink RX4 47 "ProofServer$Json" "at" "I") (jWr_19 _ (List.mem_of_getElem? (i := 12) rfl)))
  have hlk_43 := (htw (.fieldLink RX4 43 "ProofServer$Json" "end" "I") (jWr_19 _ (List.mem_of_getElem? (i := 11) rfl)))
  have hlk_33 := (htw (.fieldLink RX4 33 "ProofServer$Json" "bytes" "[B") (jWr_4 _ (List.mem_of_getElem? (i := 4) rfl)))
  refine lv_iconst (v := 0) hx hb dX4_fourDigits_0 (by decide) ?_
  refine lv_istore_n (lv' := [(1, .int 0), (0, .ref r0)]) hx hb dX4_fourDigits_1 rfl hl (by decide) rfl (fun ls hl => ?_)
  refine lv_iconst (v := 0) hx hb dX4_fourDigits_2 (by decide) ?_
  refine lv_istore_n (lv' := [(2, .int 0), (1, .int 0), (0, .ref r0)]) hx hb dX4_fourDigits_3 rfl hl (by decide) rfl (fun ls hl => ?_)
  have L4 : ∀ (N : Nat) (v1_1 : Int32) (v2_1 : Int32) (wt_1 : Int32) (H_1 : Heap) (locs_1 : List Loc), jSt (dC, dI) B base G0 G0 EX4_fourDigitsP s.heap 0 0 [(r0, 6, 11, .int wt_1), (r0, 6, 9, .ref rb), (r0, 6, 10, .int pe)] [] [] H_1 locs_1 → (0 ≤ v2_1.toInt ∧ v2_1.toInt ≤ 4 ∧ wt_1.toInt = pt.toInt + v2_1.toInt ∧ wt_1.toInt ≤ pe.toInt) → (4 - v2_1.toInt : Int) < N → ∀ ls : Array Slot, lv_has ls 6 [(0, .ref r0), (1, .int v1_1), (2, .int v2_1)] → W p l e R s m ([.ref r0] : List Value).toArray below meth c H_1 locs_1 0 0 Q (F0 m 4 ls []) := by
    intro N
    induction N with
    | zero => intro v1_1 v2_1 wt_1 H_1 locs_1 hh_1  hi_1 hm; exact absurd hm (by omega)
    | succ N L4 =>
      intro v1_1 v2_1 wt_1 H_1 locs_1 hh_1  hi_1 hm_1 ls hl
      obtain ⟨hi_1_0, hi_1_1, hi_1_2, hi_1_3⟩ := hi_1
      refine lv_iload_n hx hb dX4_fourDigits_4 rfl (lv_at hl 2 rfl) ?_
      refine lv_iconst (v := 4) hx hb dX4_fourDigits_5 (by decide) ?_
      refine lv_icmp_ge (tgt := 137) hx hb dX4_fourDigits_6 (by decide) (fun c_2 => ?_) (fun c_2 => ?_)
      · skip
        have c_2' : v2_1.toInt ≥ 4 := jb_ge (rfl) ((by decide)) c_2
        refine lv_iload_n hx hb dX4_fourDigits_137 rfl (lv_at hl 1 rfl) ?_
        rw [hQ]
        exact W.iret (v := v1_1) hx hb hr (fun t ht hW => ⟨⟨v1_1, wt_1, rfl, by first | omega | (refine ⟨?_, ?_, ?_⟩ <;> (first | omega | rfl | assumption | decide | exact Or.inl rfl | exact Or.inr rfl | (simp only; omega))), hh_1.rt (M1 := [(r0, 6, 11, .int wt_1)]) [0] rfl ht⟩, by rw [ht]; try exact hh_1.1.1, fun q h9 hq => by rw [ht]; try exact hh_1.1.2.1 q h9 hq⟩) hh_1.1.2.2 dX4_fourDigits_138
      · skip
        have c_2' : v2_1.toInt < 4 := jb_ge_n (rfl) ((by decide)) c_2
        refine lv_aload_n hx hb dX4_fourDigits_9 rfl (lv_at hl 0 rfl) ?_
        refine j7_read hx hb hown hK (C := RX4) (T := TX4) (N := 12) rfl hly_6_11 hlk_47 (hh_1.at 0 rfl) dX4_fourDigits_10 ?_
        refine lv_aload_n hx hb dX4_fourDigits_13 rfl (lv_at hl 0 rfl) ?_
        refine j7_read hx hb hown hK (C := RX4) (T := TX4) (N := 12) rfl hly_6_10 hlk_43 (hh_1.at 2 rfl) dX4_fourDigits_14 ?_
        refine lv_icmp_ge (tgt := 32) hx hb dX4_fourDigits_17 (by decide) (fun c_3 => ?_) (fun c_3 => ?_)
        · skip
          have c_3' : wt_1.toInt ≥ pe.toInt := jb_ge (rfl) (rfl) c_3
          refine lv_iconst (v := (-1)) hx hb dX4_fourDigits_32 (by decide) ?_
          refine lv_istore_n (lv' := [(3, .int (-1)), (0, .ref r0), (1, .int v1_1), (2, .int v2_1)]) hx hb dX4_fourDigits_33 rfl hl (by decide) rfl (fun ls hl => ?_)
          refine lv_iload_n hx hb dX4_fourDigits_34 rfl (lv_at hl 0 rfl) ?_
          refine lv_bipush (v := 65) hx hb dX4_fourDigits_35 (by decide) ?_
          refine lv_icmp_lt (tgt := 53) hx hb dX4_fourDigits_37 (by decide) (fun c_4 => ?_) (fun c_4 => ?_)
          · skip
            refine lv_iload_n hx hb dX4_fourDigits_53 rfl (lv_at hl 0 rfl) ?_
            refine lv_istore (lv' := [(4, .int (-1)), (3, .int (-1)), (0, .ref r0), (1, .int v1_1), (2, .int v2_1)]) hx hb dX4_fourDigits_54 hl (by decide) rfl (fun ls hl => ?_)
            refine lv_iload hx hb dX4_fourDigits_56 (lv_at hl 0 rfl) ?_
            refine lv_bipush (v := 97) hx hb dX4_fourDigits_58 (by decide) ?_
            refine lv_icmp_lt (tgt := 74) hx hb dX4_fourDigits_60 (by decide) (fun c_5 => ?_) (fun c_5 => ?_)
            · skip
              refine lv_iconst (v := 0) hx hb dX4_fourDigits_74 (by decide) ?_
              refine lv_istore (lv' := [(5, .int 0), (4, .int (-1)), (3, .int (-1)), (0, .ref r0), (1, .int v1_1), (2, .int v2_1)]) hx hb dX4_fourDigits_75 hl (by decide) rfl (fun ls hl => ?_)
              refine lv_iload hx hb dX4_fourDigits_77 (lv_at hl 0 rfl) ?_
              refine lv_if_ne (tgt := 96) hx hb dX4_fourDigits_79 (by decide) (fun c_6 => ?_) (fun c_6 => ?_)
              · skip
                exact absurd c_6 (by decide)
              · skip
                refine lv_iload_n hx hb dX4_fourDigits_82 rfl (lv_at hl 2 rfl) ?_
                refine lv_bipush (v := 48) hx hb dX4_fourDigits_83 (by decide) ?_
                refine lv_icmp_lt (tgt := 94) hx hb dX4_fourDigits_85 (by decide) (fun c_7 => ?_) (fun c_7 => ?_)
                · skip
                  refine lv_iconst (v := (-1)) hx hb dX4_fourDigits_94 (by decide) ?_
                  rw [hQ]
                  exact W.iret (v := (-1)) hx hb hr (fun t ht hW => ⟨⟨(-1), wt_1, rfl, by first | omega | (refine ⟨?_, ?_, ?_⟩ <;> (first | omega | rfl | assumption | decide | exact Or.inl rfl | exact Or.inr rfl | (simp only; omega))), hh_1.rt (M1 := [(r0, 6, 11, .int wt_1)]) [0] rfl ht⟩, by rw [ht]; try exact hh_1.1.1, fun q h9 hq => by rw [ht]; try exact hh_1.1.2.1 q h9 hq⟩) hh_1.1.2.2 dX4_fourDigits_95
                · skip
                  exact absurd c_7 (by decide)
            · skip
              exact absurd c_5 (by decide)
          · skip
            exact absurd c_4 (by decide)
        · skip
          have c_3' : wt_1.toInt < pe.toInt := jb_ge_n (rfl) (rfl) c_3
          refine lv_aload_n hx hb dX4_fourDigits_20 rfl (lv_at hl 0 rfl) ?_
          refine j7_read hx hb hown hK (C := RX4) (T := TX4) (N := 12) rfl hly_6_9 hlk_33 (hh_1.at 1 rfl) dX4_fourDigits_21 ?_
          refine lv_aload_n hx hb dX4_fourDigits_24 rfl (lv_at hl 0 rfl) ?_
          refine j7_read hx hb hown hK (C := RX4) (T := TX4) (N := 12) rfl hly_6_11 hlk_47 (hh_1.at 0 rfl) dX4_fourDigits_25 ?_
          refine j7_bald hx hb hK hh_1 hB100 0 rfl (by decide) hg_rb (x := wt_1.toInt) (rfl) (by omega) dX4_fourDigits_28 (fun z_8 (hz_8 : True) => ?_)
          refine lv_goto (tgt := 33) hx hb dX4_fourDigits_29 (by decide) ?_
          refine lv_istore_n (lv' := [(3, .int z_8), (0, .ref r0), (1, .int v1_1), (2, .int v2_1)]) hx hb dX4_fourDigits_33 rfl hl (by decide) rfl (fun ls hl => ?_)
          refine lv_iload_n hx hb dX4_fourDigits_34 rfl (lv_at hl 0 rfl) ?_
          refine lv_bipush (v := 65) hx hb dX4_fourDigits_35 (by decide) ?_
          refine lv_icmp_lt (tgt := 53) hx hb dX4_fourDigits_37 (by decide) (fun c_9 => ?_) (fun c_9 => ?_)
          · skip
            have c_9' : z_8.toInt < 65 := jb_lt (rfl) ((by decide)) c_9
            refine lv_iload_n hx hb dX4_fourDigits_53 rfl (lv_at hl 0 rfl) ?_
            refine lv_istore (lv' := [(4, .int z_8), (3, .int z_8), (0, .ref r0), (1, .int v1_1), (2, .int v2_1)]) hx hb dX4_fourDigits_54 hl (by decide) rfl (fun ls hl => ?_)
            refine lv_iload hx hb dX4_fourDigits_56 (lv_at hl 0 rfl) ?_
            refine lv_bipush (v := 97) hx hb dX4_fourDigits_58 (by decide) ?_
            refine lv_icmp_lt (tgt := 74) hx hb dX4_fourDigits_60 (by decide) (fun c_10 => ?_) (fun c_10 => ?_)
            · skip
              have c_10' : z_8.toInt < 97 := jb_lt (rfl) ((by decide)) c_10
              refine lv_iconst (v := 0) hx hb dX4_fourDigits_74 (by decide) ?_
              refine lv_istore (lv' := [(5, .int 0), (4, .int z_8), (3, .int z_8), (0, .ref r0), (1, .int v1_1), (2, .int v2_1)]) hx hb dX4_fourDigits_75 hl (by decide) rfl (fun ls hl => ?_)
              refine lv_iload hx hb dX4_fourDigits_77 (lv_at hl 0 rfl) ?_
              refine lv_if_ne (tgt := 96) hx hb dX4_fourDigits_79 (by decide) (fun c_11 => ?_) (fun c_11 => ?_)
              · skip
                exact absurd c_11 (by decide)
              · skip
                refine lv_iload_n hx hb dX4_fourDigits_82 rfl (lv_at hl 2 rfl) ?_
                refine lv_bipush (v := 48) hx hb dX4_fourDigits_83 (by decide) ?_
                refine lv_icmp_lt (tgt := 94) hx hb dX4_fourDigits_85 (by decide) (fun c_12 => ?_) (fun c_12 => ?_)
                · skip
                  have c_12' : z_8.toInt < 48 := jb_lt (rfl) ((by decide)) c_12
                  refine lv_iconst (v := (-1)) hx hb dX4_fourDigits_94 (by decide) ?_
                  rw [hQ]
                  exact W.iret (v := (-1)) hx hb hr (fun t ht hW => ⟨⟨(-1), wt_1, rfl, by first | omega | (refine ⟨?_, ?_, ?_⟩ <;> (first | omega | rfl | assumption | decide | exact Or.inl rfl | exact Or.inr rfl | (simp only; omega))), hh_1.rt (M1 := [(r0, 6, 11, .int wt_1)]) [0] rfl ht⟩, by rw [ht]; try exact hh_1.1.1, fun q h9 hq => by rw [ht]; try exact hh_1.1.2.1 q h9 hq⟩) hh_1.1.2.2 dX4_fourDigits_95
                · skip
                  have c_12' : z_8.toInt ≥ 48 := jb_lt_n (rfl) ((by decide)) c_12
                  refine lv_iload_n hx hb dX4_fourDigits_88 rfl (lv_at hl 2 rfl) ?_
                  refine lv_bipush (v := 57) hx hb dX4_fourDigits_89 (by decide) ?_
                  refine lv_icmp_le (tgt := 96) hx hb dX4_fourDigits_91 (by decide) (fun c_13 => ?_) (fun c_13 => ?_)
                  · skip
                    have c_13' : z_8.toInt ≤ 57 := jb_le (rfl) ((by decide)) c_13
                    refine lv_iload_n hx hb dX4_fourDigits_96 rfl (lv_at hl 4 rfl) ?_
                    refine lv_iconst (v := 4) hx hb dX4_fourDigits_97 (by decide) ?_
                    refine lv_ishl hx hb dX4_fourDigits_98 ?_
                    refine lv_topi (fun z_14 ez_14 => ?_)
                    refine lv_iload hx hb dX4_fourDigits_99 (lv_at hl 0 rfl) ?_
                    refine lv_if_eq (tgt := 115) hx hb dX4_fourDigits_101 (by decide) (fun c_15 => ?_) (fun c_15 => ?_)
                    · skip
                      refine lv_iload_n hx hb dX4_fourDigits_115 rfl (lv_at hl 2 rfl) ?_
                      refine lv_bipush (v := 48) hx hb dX4_fourDigits_116 (by decide) ?_
                      refine lv_isub hx hb dX4_fourDigits_118 ?_
                      refine lv_topi (fun z_16 ez_16 => ?_)
                      have hz_16 : z_16.toInt = z_8.toInt - 48 := by rw [ez_16]; exact jb_isub2 (rfl) ((by decide)) (by omega)
                      refine lv_ior hx hb dX4_fourDigits_119 ?_
                      refine lv_topi (fun z_17 ez_17 => ?_)
                      refine lv_istore_n (lv' := [(1, .int z_17), (5, .int 0), (4, .int z_8), (3, .int z_8), (0, .ref r0), (2, .int v2_1)]) hx hb dX4_fourDigits_120 rfl hl (by decide) rfl (fun ls hl => ?_)
                      refine lv_aload_n hx hb dX4_fourDigits_121 rfl (lv_at hl 4 rfl) ?_
                      refine lv_dup hx hb dX4_fourDigits_122 rfl ?_
                      refine j7_read hx hb hown hK (C := RX4) (T := TX4) (N := 12) rfl hly_6_11 hlk_47 (hh_1.at 0 rfl) dX4_fourDigits_123 ?_
                      refine lv_iconst (v := 1) hx hb dX4_fourDigits_126 (by decide) ?_
                      refine lv_iadd hx hb dX4_fourDigits_127 ?_
                      refine lv_topi (fun z_18 ez_18 => ?_)
                      have hz_18 : z_18.toInt = wt_1.toInt + 1 := by rw [ez_18]; exact jb_iadd2 (rfl) ((by decide)) (by omega)
                      refine j7_put hx hb hown hK hh_1 hB hAp hB6 (C := RX4) (T := TX4) (N := 12) rfl (by decide) hg_r0 (i := 11) (by decide) hly_6_11 rfl hlk_47 rfl (ty := .int) (v := .int z_18) (by decide +kernel) rfl rfl (⟨_, rfl, by omega, by omega⟩) rfl (L1 := [(r0, 6, 9, .ref rb), (r0, 6, 10, .int pe)]) [1, 2] rfl rfl rfl dX4_fourDigits_128 (fun H_19 locs_19 hh_19 => ?_)
                      clear hh_1
                      obtain ⟨z_20, ez_20⟩ : ∃ y : Int32, y = v2_1 + 1 := ⟨_, rfl⟩
                      refine lv_iinc (v := z_20) (lv' := [(2, .int z_20), (1, .int z_17), (5, .int 0), (4, .int z_8), (3, .int z_8), (0, .ref r0)]) hx hb dX4_fourDigits_131 hl (k := 5) rfl (by rw [ez_20]; rfl) (by decide) rfl (fun ls hl => ?_)
                      have hz_20 : z_20.toInt = v2_1.toInt + 1 := by rw [ez_20]; exact jb_iadd2 (rfl) (by decide) (by omega)
                      refine lv_goto (tgt := 4) hx hb dX4_fourDigits_134 (by decide) ?_
                      exact L4 z_17 z_20 z_18 _ _ hh_19 (by first | omega | (refine ⟨?_, ?_, ?_, ?_⟩ <;> (first | omega | rfl | assumption | decide | exact Or.inl rfl | exact Or.inr rfl | (simp only; omega)))) (by omega) _ (lv_sub hl [5, 1, 0] rfl)
                    · skip
                      exact absurd c_15 (by decide)
                  · skip
                    have c_13' : z_8.toInt > 57 := jb_le_n (rfl) ((by decide)) c_13
                    refine lv_iconst (v := (-1)) hx hb dX4_fourDigits_94 (by decide) ?_
                    rw [hQ]
                    exact W.iret (v := (-1)) hx hb hr (fun t ht hW => ⟨⟨(-1), wt_1, rfl, by first | omega | (refine ⟨?_, ?_, ?_⟩ <;> (first | omega | rfl | assumption | decide | exact Or.inl rfl | exact Or.inr rfl | (simp only; omega))), hh_1.rt (M1 := [(r0, 6, 11, .int wt_1)]) [0] rfl ht⟩, by rw [ht]; try exact hh_1.1.1, fun q h9 hq => by rw [ht]; try exact hh_1.1.2.1 q h9 hq⟩) hh_1.1.2.2 dX4_fourDigits_95
            · skip
              have c_10' : z_8.toInt ≥ 97 := jb_lt_n (rfl) ((by decide)) c_10
              refine lv_iload hx hb dX4_fourDigits_63 (lv_at hl 0 rfl) ?_
              refine lv_bipush (v := 102) hx hb dX4_fourDigits_65 (by decide) ?_
              refine lv_icmp_gt (tgt := 74) hx hb dX4_fourDigits_67 (by decide) (fun c_21 => ?_) (fun c_21 => ?_)
              · skip
                have c_21' : z_8.toInt > 102 := jb_gt (rfl) ((by decide)) c_21
                refine lv_iconst (v := 0) hx hb dX4_fourDigits_74 (by decide) ?_
                refine lv_istore (lv' := [(5, .int 0), (4, .int z_8), (3, .int z_8), (0, .ref r0), (1, .int v1_1), (2, .int v2_1)]) hx hb dX4_fourDigits_75 hl (by decide) rfl (fun ls hl => ?_)
                refine lv_iload hx hb dX4_fourDigits_77 (lv_at hl 0 rfl) ?_
                refine lv_if_ne (tgt := 96) hx hb dX4_fourDigits_79 (by decide) (fun c_22 => ?_) (fun c_22 => ?_)
                · skip
                  exact absurd c_22 (by decide)
                · skip
                  refine lv_iload_n hx hb dX4_fourDigits_82 rfl (lv_at hl 2 rfl) ?_
                  refine lv_bipush (v := 48) hx hb dX4_fourDigits_83 (by decide) ?_
                  refine lv_icmp_lt (tgt := 94) hx hb dX4_fourDigits_85 (by decide) (fun c_23 => ?_) (fun c_23 => ?_)
                  · skip
                    have c_23' : z_8.toInt < 48 := jb_lt (rfl) ((by decide)) c_23
                    refine lv_iconst (v := (-1)) hx hb dX4_fourDigits_94 (by decide) ?_
                    rw [hQ]
                    exact W.iret (v := (-1)) hx hb hr (fun t ht hW => ⟨⟨(-1), wt_1, rfl, by first | omega | (refine ⟨?_, ?_, ?_⟩ <;> (first | omega | rfl | assumption | decide | exact Or.inl rfl | exact Or.inr rfl | (simp only; omega))), hh_1.rt (M1 := [(r0, 6, 11, .int wt_1)]) [0] rfl ht⟩, by rw [ht]; try exact hh_1.1.1, fun q h9 hq => by rw [ht]; try exact hh_1.1.2.1 q h9 hq⟩) hh_1.1.2.2 dX4_fourDigits_95
                  · skip
                    have c_23' : z_8.toInt ≥ 48 := jb_lt_n (rfl) ((by decide)) c_23
                    refine lv_iload_n hx hb dX4_fourDigits_88 rfl (lv_at hl 2 rfl) ?_
                    refine lv_bipush (v := 57) hx hb dX4_fourDigits_89 (by decide) ?_
                    refine lv_icmp_le (tgt := 96) hx hb dX4_fourDigits_91 (by decide) (fun c_24 => ?_) (fun c_24 => ?_)
                    · skip
                      have c_24' : z_8.toInt ≤ 57 := jb_le (rfl) ((by decide)) c_24
                      refine lv_iload_n hx hb dX4_fourDigits_96 rfl (lv_at hl 4 rfl) ?_
                      refine lv_iconst (v := 4) hx hb dX4_fourDigits_97 (by decide) ?_
                      refine lv_ishl hx hb dX4_fourDigits_98 ?_
                      refine lv_topi (fun z_25 ez_25 => ?_)
                      refine lv_iload hx hb dX4_fourDigits_99 (lv_at hl 0 rfl) ?_
                      refine lv_if_eq (tgt := 115) hx hb dX4_fourDigits_101 (by decide) (fun c_26 => ?_) (fun c_26 => ?_)
                      · skip
                        refine lv_iload_n hx hb dX4_fourDigits_115 rfl (lv_at hl 2 rfl) ?_
                        refine lv_bipush (v := 48) hx hb dX4_fourDigits_116 (by decide) ?_
                        refine lv_isub hx hb dX4_fourDigits_118 ?_
                        refine lv_topi (fun z_27 ez_27 => ?_)
                        have hz_27 : z_27.toInt = z_8.toInt - 48 := by rw [ez_27]; exact jb_isub2 (rfl) ((by decide)) (by omega)
                        refine lv_ior hx hb dX4_fourDigits_119 ?_
                        refine lv_topi (fun z_28 ez_28 => ?_)
                        refine lv_istore_n (lv' := [(1, .int z_28), (5, .int 0), (4, .int z_8), (3, .int z_8), (0, .ref r0), (2, .int v2_1)]) hx hb dX4_fourDigits_120 rfl hl (by decide) rfl (fun ls hl => ?_)
                        refine lv_aload_n hx hb dX4_fourDigits_121 rfl (lv_at hl 4 rfl) ?_
                        refine lv_dup hx hb dX4_fourDigits_122 rfl ?_
                        refine j7_read hx hb hown hK (C := RX4) (T := TX4) (N := 12) rfl hly_6_11 hlk_47 (hh_1.at 0 rfl) dX4_fourDigits_123 ?_
                        refine lv_iconst (v := 1) hx hb dX4_fourDigits_126 (by decide) ?_
                        refine lv_iadd hx hb dX4_fourDigits_127 ?_
                        refine lv_topi (fun z_29 ez_29 => ?_)
                        have hz_29 : z_29.toInt = wt_1.toInt + 1 := by rw [ez_29]; exact jb_iadd2 (rfl) ((by decide)) (by omega)
                        refine j7_put hx hb hown hK hh_1 hB hAp hB6 (C := RX4) (T := TX4) (N := 12) rfl (by decide) hg_r0 (i := 11) (by decide) hly_6_11 rfl hlk_47 rfl (ty := .int) (v := .int z_29) (by decide +kernel) rfl rfl (⟨_, rfl, by omega, by omega⟩) rfl (L1 := [(r0, 6, 9, .ref rb), (r0, 6, 10, .int pe)]) [1, 2] rfl rfl rfl dX4_fourDigits_128 (fun H_30 locs_30 hh_30 => ?_)
                        clear hh_1
                        obtain ⟨z_31, ez_31⟩ : ∃ y : Int32, y = v2_1 + 1 := ⟨_, rfl⟩
                        refine lv_iinc (v := z_31) (lv' := [(2, .int z_31), (1, .int z_28), (5, .int 0), (4, .int z_8), (3, .int z_8), (0, .ref r0)]) hx hb dX4_fourDigits_131 hl (k := 5) rfl (by rw [ez_31]; rfl) (by decide) rfl (fun ls hl => ?_)
                        have hz_31 : z_31.toInt = v2_1.toInt + 1 := by rw [ez_31]; exact jb_iadd2 (rfl) (by decide) (by omega)
                        refine lv_goto (tgt := 4) hx hb dX4_fourDigits_134 (by decide) ?_
                        exact L4 z_28 z_31 z_29 _ _ hh_30 (by first | omega | (refine ⟨?_, ?_, ?_, ?_⟩ <;> (first | omega | rfl | assumption | decide | exact Or.inl rfl | exact Or.inr rfl | (simp only; omega)))) (by omega) _ (lv_sub hl [5, 1, 0] rfl)
                      · skip
                        exact absurd c_26 (by decide)
                    · skip
                      have c_24' : z_8.toInt > 57 := jb_le_n (rfl) ((by decide)) c_24
                      refine lv_iconst (v := (-1)) hx hb dX4_fourDigits_94 (by decide) ?_
                      rw [hQ]
                      exact W.iret (v := (-1)) hx hb hr (fun t ht hW => ⟨⟨(-1), wt_1, rfl, by first | omega | (refine ⟨?_, ?_, ?_⟩ <;> (first | omega | rfl | assumption | decide | exact Or.inl rfl | exact Or.inr rfl | (simp only; omega))), hh_1.rt (M1 := [(r0, 6, 11, .int wt_1)]) [0] rfl ht⟩, by rw [ht]; try exact hh_1.1.1, fun q h9 hq => by rw [ht]; try exact hh_1.1.2.1 q h9 hq⟩) hh_1.1.2.2 dX4_fourDigits_95
              · skip
                have c_21' : z_8.toInt ≤ 102 := jb_gt_n (rfl) ((by decide)) c_21
                refine lv_iconst (v := 1) hx hb dX4_fourDigits_70 (by decide) ?_
                refine lv_goto (tgt := 75) hx hb dX4_fourDigits_71 (by decide) ?_
                refine lv_istore (lv' := [(5, .int 1), (4, .int z_8), (3, .int z_8), (0, .ref r0), (1, .int v1_1), (2, .int v2_1)]) hx hb dX4_fourDigits_75 hl (by decide) rfl (fun ls hl => ?_)
                refine lv_iload hx hb dX4_fourDigits_77 (lv_at hl 0 rfl) ?_
                refine lv_if_ne (tgt := 96) hx hb dX4_fourDigits_79 (by decide) (fun c_32 => ?_) (fun c_32 => ?_)
                · skip
                  refine lv_iload_n hx hb dX4_fourDigits_96 rfl (lv_at hl 4 rfl) ?_
                  refine lv_iconst (v := 4) hx hb dX4_fourDigits_97 (by decide) ?_
                  refine lv_ishl hx hb dX4_fourDigits_98 ?_
                  refine lv_topi (fun z_33 ez_33 => ?_)
                  refine lv_iload hx hb dX4_fourDigits_99 (lv_at hl 0 rfl) ?_
                  refine lv_if_eq (tgt := 115) hx hb dX4_fourDigits_101 (by decide) (fun c_34 => ?_) (fun c_34 => ?_)
                  · skip
                    exact absurd c_34 (by decide)
                  · skip
                    refine lv_iload hx hb dX4_fourDigits_104 (lv_at hl 1 rfl) ?_
                    refine lv_bipush (v := 97) hx hb dX4_fourDigits_106 (by decide) ?_
                    refine lv_isub hx hb dX4_fourDigits_108 ?_
                    refine lv_topi (fun z_35 ez_35 => ?_)
                    have hz_35 : z_35.toInt = z_8.toInt - 97 := by rw [ez_35]; exact jb_isub2 (rfl) ((by decide)) (by omega)
                    refine lv_bipush (v := 10) hx hb dX4_fourDigits_109 (by decide) ?_
                    refine lv_iadd hx hb dX4_fourDigits_111 ?_
                    refine lv_topi (fun z_36 ez_36 => ?_)
                    have hz_36 : z_36.toInt = z_35.toInt + 10 := by rw [ez_36]; exact jb_iadd2 (rfl) ((by decide)) (by omega)
                    refine lv_goto (tgt := 119) hx hb dX4_fourDigits_112 (by decide) ?_
                    refine lv_ior hx hb dX4_fourDigits_119 ?_
                    refine lv_topi (fun z_37 ez_37 => ?_)
                    refine lv_istore_n (lv' := [(1, .int z_37), (5, .int 1), (4, .int z_8), (3, .int z_8), (0, .ref r0), (2, .int v2_1)]) hx hb dX4_fourDigits_120 rfl hl (by decide) rfl (fun ls hl => ?_)
                    refine lv_aload_n hx hb dX4_fourDigits_121 rfl (lv_at hl 4 rfl) ?_
                    refine lv_dup hx hb dX4_fourDigits_122 rfl ?_
                    refine j7_read hx hb hown hK (C := RX4) (T := TX4) (N := 12) rfl hly_6_11 hlk_47 (hh_1.at 0 rfl) dX4_fourDigits_123 ?_
                    refine lv_iconst (v := 1) hx hb dX4_fourDigits_126 (by decide) ?_
                    refine lv_iadd hx hb dX4_fourDigits_127 ?_
                    refine lv_topi (fun z_38 ez_38 => ?_)
                    have hz_38 : z_38.toInt = wt_1.toInt + 1 := by rw [ez_38]; exact jb_iadd2 (rfl) ((by decide)) (by omega)
                    refine j7_put hx hb hown hK hh_1 hB hAp hB6 (C := RX4) (T := TX4) (N := 12) rfl (by decide) hg_r0 (i := 11) (by decide) hly_6_11 rfl hlk_47 rfl (ty := .int) (v := .int z_38) (by decide +kernel) rfl rfl (⟨_, rfl, by omega, by omega⟩) rfl (L1 := [(r0, 6, 9, .ref rb), (r0, 6, 10, .int pe)]) [1, 2] rfl rfl rfl dX4_fourDigits_128 (fun H_39 locs_39 hh_39 => ?_)
                    clear hh_1
                    obtain ⟨z_40, ez_40⟩ : ∃ y : Int32, y = v2_1 + 1 := ⟨_, rfl⟩
                    refine lv_iinc (v := z_40) (lv' := [(2, .int z_40), (1, .int z_37), (5, .int 1), (4, .int z_8), (3, .int z_8), (0, .ref r0)]) hx hb dX4_fourDigits_131 hl (k := 5) rfl (by rw [ez_40]; rfl) (by decide) rfl (fun ls hl => ?_)
                    have hz_40 : z_40.toInt = v2_1.toInt + 1 := by rw [ez_40]; exact jb_iadd2 (rfl) (by decide) (by omega)
                    refine lv_goto (tgt := 4) hx hb dX4_fourDigits_134 (by decide) ?_
                    exact L4 z_37 z_40 z_38 _ _ hh_39 (by first | omega | (refine ⟨?_, ?_, ?_, ?_⟩ <;> (first | omega | rfl | assumption | decide | exact Or.inl rfl | exact Or.inr rfl | (simp only; omega)))) (by omega) _ (lv_sub hl [5, 1, 0] rfl)
                · skip
                  exact absurd c_32 (by decide)
          · skip
            have c_9' : z_8.toInt ≥ 65 := jb_lt_n (rfl) ((by decide)) c_9
            refine lv_iload_n hx hb dX4_fourDigits_40 rfl (lv_at hl 0 rfl) ?_
            refine lv_bipush (v := 70) hx hb dX4_fourDigits_41 (by decide) ?_
            refine lv_icmp_gt (tgt := 53) hx hb dX4_fourDigits_43 (by decide) (fun c_41 => ?_) (fun c_41 => ?_)
            · skip
              have c_41' : z_8.toInt > 70 := jb_gt (rfl) ((by decide)) c_41
              refine lv_iload_n hx hb dX4_fourDigits_53 rfl (lv_at hl 0 rfl) ?_
              refine lv_istore (lv' := [(4, .int z_8), (3, .int z_8), (0, .ref r0), (1, .int v1_1), (2, .int v2_1)]) hx hb dX4_fourDigits_54 hl (by decide) rfl (fun ls hl => ?_)
              refine lv_iload hx hb dX4_fourDigits_56 (lv_at hl 0 rfl) ?_
              refine lv_bipush (v := 97) hx hb dX4_fourDigits_58 (by decide) ?_
              refine lv_icmp_lt (tgt := 74) hx hb dX4_fourDigits_60 (by decide) (fun c_42 => ?_) (fun c_42 => ?_)
              · skip
                have c_42' : z_8.toInt < 97 := jb_lt (rfl) ((by decide)) c_42
                refine lv_iconst (v := 0) hx hb dX4_fourDigits_74 (by decide) ?_
                refine lv_istore (lv' := [(5, .int 0), (4, .int z_8), (3, .int z_8), (0, .ref r0), (1, .int v1_1), (2, .int v2_1)]) hx hb dX4_fourDigits_75 hl (by decide) rfl (fun ls hl => ?_)
                refine lv_iload hx hb dX4_fourDigits_77 (lv_at hl 0 rfl) ?_
                refine lv_if_ne (tgt := 96) hx hb dX4_fourDigits_79 (by decide) (fun c_43 => ?_) (fun c_43 => ?_)
                · skip
                  exact absurd c_43 (by decide)
                · skip
                  refine lv_iload_n hx hb dX4_fourDigits_82 rfl (lv_at hl 2 rfl) ?_
                  refine lv_bipush (v := 48) hx hb dX4_fourDigits_83 (by decide) ?_
                  refine lv_icmp_lt (tgt := 94) hx hb dX4_fourDigits_85 (by decide) (fun c_44 => ?_) (fun c_44 => ?_)
                  · skip
                    have c_44' : z_8.toInt < 48 := jb_lt (rfl) ((by decide)) c_44
                    refine lv_iconst (v := (-1)) hx hb dX4_fourDigits_94 (by decide) ?_
                    rw [hQ]
                    exact W.iret (v := (-1)) hx hb hr (fun t ht hW => ⟨⟨(-1), wt_1, rfl, by first | omega | (refine ⟨?_, ?_, ?_⟩ <;> (first | omega | rfl | assumption | decide | exact Or.inl rfl | exact Or.inr rfl | (simp only; omega))), hh_1.rt (M1 := [(r0, 6, 11, .int wt_1)]) [0] rfl ht⟩, by rw [ht]; try exact hh_1.1.1, fun q h9 hq => by rw [ht]; try exact hh_1.1.2.1 q h9 hq⟩) hh_1.1.2.2 dX4_fourDigits_95
                  · skip
                    have c_44' : z_8.toInt ≥ 48 := jb_lt_n (rfl) ((by decide)) c_44
                    refine lv_iload_n hx hb dX4_fourDigits_88 rfl (lv_at hl 2 rfl) ?_
                    refine lv_bipush (v := 57) hx hb dX4_fourDigits_89 (by decide) ?_
                    refine lv_icmp_le (tgt := 96) hx hb dX4_fourDigits_91 (by decide) (fun c_45 => ?_) (fun c_45 => ?_)
                    · skip
                      have c_45' : z_8.toInt ≤ 57 := jb_le (rfl) ((by decide)) c_45
                      refine lv_iload_n hx hb dX4_fourDigits_96 rfl (lv_at hl 4 rfl) ?_
                      refine lv_iconst (v := 4) hx hb dX4_fourDigits_97 (by decide) ?_
                      refine lv_ishl hx hb dX4_fourDigits_98 ?_
                      refine lv_topi (fun z_46 ez_46 => ?_)
                      refine lv_iload hx hb dX4_fourDigits_99 (lv_at hl 0 rfl) ?_
                      refine lv_if_eq (tgt := 115) hx hb dX4_fourDigits_101 (by decide) (fun c_47 => ?_) (fun c_47 => ?_)
                      · skip
                        refine lv_iload_n hx hb dX4_fourDigits_115 rfl (lv_at hl 2 rfl) ?_
                        refine lv_bipush (v := 48) hx hb dX4_fourDigits_116 (by decide) ?_
                        refine lv_isub hx hb dX4_fourDigits_118 ?_
                        refine lv_topi (fun z_48 ez_48 => ?_)
                        have hz_48 : z_48.toInt = z_8.toInt - 48 := by rw [ez_48]; exact jb_isub2 (rfl) ((by decide)) (by omega)
                        refine lv_ior hx hb dX4_fourDigits_119 ?_
                        refine lv_topi (fun z_49 ez_49 => ?_)
                        refine lv_istore_n (lv' := [(1, .int z_49), (5, .int 0), (4, .int z_8), (3, .int z_8), (0, .ref r0), (2, .int v2_1)]) hx hb dX4_fourDigits_120 rfl hl (by decide) rfl (fun ls hl => ?_)
                        refine lv_aload_n hx hb dX4_fourDigits_121 rfl (lv_at hl 4 rfl) ?_
                        refine lv_dup hx hb dX4_fourDigits_122 rfl ?_
                        refine j7_read hx hb hown hK (C := RX4) (T := TX4) (N := 12) rfl hly_6_11 hlk_47 (hh_1.at 0 rfl) dX4_fourDigits_123 ?_
                        refine lv_iconst (v := 1) hx hb dX4_fourDigits_126 (by decide) ?_
                        refine lv_iadd hx hb dX4_fourDigits_127 ?_
                        refine lv_topi (fun z_50 ez_50 => ?_)
                        have hz_50 : z_50.toInt = wt_1.toInt + 1 := by rw [ez_50]; exact jb_iadd2 (rfl) ((by decide)) (by omega)
                        refine j7_put hx hb hown hK hh_1 hB hAp hB6 (C := RX4) (T := TX4) (N := 12) rfl (by decide) hg_r0 (i := 11) (by decide) hly_6_11 rfl hlk_47 rfl (ty := .int) (v := .int z_50) (by decide +kernel) rfl rfl (⟨_, rfl, by omega, by omega⟩) rfl (L1 := [(r0, 6, 9, .ref rb), (r0, 6, 10, .int pe)]) [1, 2] rfl rfl rfl dX4_fourDigits_128 (fun H_51 locs_51 hh_51 => ?_)
                        clear hh_1
                        obtain ⟨z_52, ez_52⟩ : ∃ y : Int32, y = v2_1 + 1 := ⟨_, rfl⟩
                        refine lv_iinc (v := z_52) (lv' := [(2, .int z_52), (1, .int z_49), (5, .int 0), (4, .int z_8), (3, .int z_8), (0, .ref r0)]) hx hb dX4_fourDigits_131 hl (k := 5) rfl (by rw [ez_52]; rfl) (by decide) rfl (fun ls hl => ?_)
                        have hz_52 : z_52.toInt = v2_1.toInt + 1 := by rw [ez_52]; exact jb_iadd2 (rfl) (by decide) (by omega)
                        refine lv_goto (tgt := 4) hx hb dX4_fourDigits_134 (by decide) ?_
                        exact L4 z_49 z_52 z_50 _ _ hh_51 (by first | omega | (refine ⟨?_, ?_, ?_, ?_⟩ <;> (first | omega | rfl | assumption | decide | exact Or.inl rfl | exact Or.inr rfl | (simp only; omega)))) (by omega) _ (lv_sub hl [5, 1, 0] rfl)
                      · skip
                        exact absurd c_47 (by decide)
                    · skip
                      have c_45' : z_8.toInt > 57 := jb_le_n (rfl) ((by decide)) c_45
                      refine lv_iconst (v := (-1)) hx hb dX4_fourDigits_94 (by decide) ?_
                      rw [hQ]
                      exact W.iret (v := (-1)) hx hb hr (fun t ht hW => ⟨⟨(-1), wt_1, rfl, by first | omega | (refine ⟨?_, ?_, ?_⟩ <;> (first | omega | rfl | assumption | decide | exact Or.inl rfl | exact Or.inr rfl | (simp only; omega))), hh_1.rt (M1 := [(r0, 6, 11, .int wt_1)]) [0] rfl ht⟩, by rw [ht]; try exact hh_1.1.1, fun q h9 hq => by rw [ht]; try exact hh_1.1.2.1 q h9 hq⟩) hh_1.1.2.2 dX4_fourDigits_95
              · skip
                have c_42' : z_8.toInt ≥ 97 := jb_lt_n (rfl) ((by decide)) c_42
                refine lv_iload hx hb dX4_fourDigits_63 (lv_at hl 0 rfl) ?_
                refine lv_bipush (v := 102) hx hb dX4_fourDigits_65 (by decide) ?_
                refine lv_icmp_gt (tgt := 74) hx hb dX4_fourDigits_67 (by decide) (fun c_53 => ?_) (fun c_53 => ?_)
                · skip
                  have c_53' : z_8.toInt > 102 := jb_gt (rfl) ((by decide)) c_53
                  refine lv_iconst (v := 0) hx hb dX4_fourDigits_74 (by decide) ?_
                  refine lv_istore (lv' := [(5, .int 0), (4, .int z_8), (3, .int z_8), (0, .ref r0), (1, .int v1_1), (2, .int v2_1)]) hx hb dX4_fourDigits_75 hl (by decide) rfl (fun ls hl => ?_)
                  refine lv_iload hx hb dX4_fourDigits_77 (lv_at hl 0 rfl) ?_
                  refine lv_if_ne (tgt := 96) hx hb dX4_fourDigits_79 (by decide) (fun c_54 => ?_) (fun c_54 => ?_)
                  · skip
                    exact absurd c_54 (by decide)
                  · skip
                    refine lv_iload_n hx hb dX4_fourDigits_82 rfl (lv_at hl 2 rfl) ?_
                    refine lv_bipush (v := 48) hx hb dX4_fourDigits_83 (by decide) ?_
                    refine lv_icmp_lt (tgt := 94) hx hb dX4_fourDigits_85 (by decide) (fun c_55 => ?_) (fun c_55 => ?_)
                    · skip
                      have c_55' : z_8.toInt < 48 := jb_lt (rfl) ((by decide)) c_55
                      refine lv_iconst (v := (-1)) hx hb dX4_fourDigits_94 (by decide) ?_
                      rw [hQ]
                      exact W.iret (v := (-1)) hx hb hr (fun t ht hW => ⟨⟨(-1), wt_1, rfl, by first | omega | (refine ⟨?_, ?_, ?_⟩ <;> (first | omega | rfl | assumption | decide | exact Or.inl rfl | exact Or.inr rfl | (simp only; omega))), hh_1.rt (M1 := [(r0, 6, 11, .int wt_1)]) [0] rfl ht⟩, by rw [ht]; try exact hh_1.1.1, fun q h9 hq => by rw [ht]; try exact hh_1.1.2.1 q h9 hq⟩) hh_1.1.2.2 dX4_fourDigits_95
                    · skip
                      have c_55' : z_8.toInt ≥ 48 := jb_lt_n (rfl) ((by decide)) c_55
                      refine lv_iload_n hx hb dX4_fourDigits_88 rfl (lv_at hl 2 rfl) ?_
                      refine lv_bipush (v := 57) hx hb dX4_fourDigits_89 (by decide) ?_
                      refine lv_icmp_le (tgt := 96) hx hb dX4_fourDigits_91 (by decide) (fun c_56 => ?_) (fun c_56 => ?_)
                      · skip
                        have c_56' : z_8.toInt ≤ 57 := jb_le (rfl) ((by decide)) c_56
                        refine lv_iload_n hx hb dX4_fourDigits_96 rfl (lv_at hl 4 rfl) ?_
                        refine lv_iconst (v := 4) hx hb dX4_fourDigits_97 (by decide) ?_
                        refine lv_ishl hx hb dX4_fourDigits_98 ?_
                        refine lv_topi (fun z_57 ez_57 => ?_)
                        refine lv_iload hx hb dX4_fourDigits_99 (lv_at hl 0 rfl) ?_
                        refine lv_if_eq (tgt := 115) hx hb dX4_fourDigits_101 (by decide) (fun c_58 => ?_) (fun c_58 => ?_)
                        · skip
                          refine lv_iload_n hx hb dX4_fourDigits_115 rfl (lv_at hl 2 rfl) ?_
                          refine lv_bipush (v := 48) hx hb dX4_fourDigits_116 (by decide) ?_
                          refine lv_isub hx hb dX4_fourDigits_118 ?_
                          refine lv_topi (fun z_59 ez_59 => ?_)
                          have hz_59 : z_59.toInt = z_8.toInt - 48 := by rw [ez_59]; exact jb_isub2 (rfl) ((by decide)) (by omega)
                          refine lv_ior hx hb dX4_fourDigits_119 ?_
                          refine lv_topi (fun z_60 ez_60 => ?_)
                          refine lv_istore_n (lv' := [(1, .int z_60), (5, .int 0), (4, .int z_8), (3, .int z_8), (0, .ref r0), (2, .int v2_1)]) hx hb dX4_fourDigits_120 rfl hl (by decide) rfl (fun ls hl => ?_)
                          refine lv_aload_n hx hb dX4_fourDigits_121 rfl (lv_at hl 4 rfl) ?_
                          refine lv_dup hx hb dX4_fourDigits_122 rfl ?_
                          refine j7_read hx hb hown hK (C := RX4) (T := TX4) (N := 12) rfl hly_6_11 hlk_47 (hh_1.at 0 rfl) dX4_fourDigits_123 ?_
                          refine lv_iconst (v := 1) hx hb dX4_fourDigits_126 (by decide) ?_
                          refine lv_iadd hx hb dX4_fourDigits_127 ?_
                          refine lv_topi (fun z_61 ez_61 => ?_)
                          have hz_61 : z_61.toInt = wt_1.toInt + 1 := by rw [ez_61]; exact jb_iadd2 (rfl) ((by decide)) (by omega)
                          refine j7_put hx hb hown hK hh_1 hB hAp hB6 (C := RX4) (T := TX4) (N := 12) rfl (by decide) hg_r0 (i := 11) (by decide) hly_6_11 rfl hlk_47 rfl (ty := .int) (v := .int z_61) (by decide +kernel) rfl rfl (⟨_, rfl, by omega, by omega⟩) rfl (L1 := [(r0, 6, 9, .ref rb), (r0, 6, 10, .int pe)]) [1, 2] rfl rfl rfl dX4_fourDigits_128 (fun H_62 locs_62 hh_62 => ?_)
                          clear hh_1
                          obtain ⟨z_63, ez_63⟩ : ∃ y : Int32, y = v2_1 + 1 := ⟨_, rfl⟩
                          refine lv_iinc (v := z_63) (lv' := [(2, .int z_63), (1, .int z_60), (5, .int 0), (4, .int z_8), (3, .int z_8), (0, .ref r0)]) hx hb dX4_fourDigits_131 hl (k := 5) rfl (by rw [ez_63]; rfl) (by decide) rfl (fun ls hl => ?_)
                          have hz_63 : z_63.toInt = v2_1.toInt + 1 := by rw [ez_63]; exact jb_iadd2 (rfl) (by decide) (by omega)
                          refine lv_goto (tgt := 4) hx hb dX4_fourDigits_134 (by decide) ?_
                          exact L4 z_60 z_63 z_61 _ _ hh_62 (by first | omega | (refine ⟨?_, ?_, ?_, ?_⟩ <;> (first | omega | rfl | assumption | decide | exact Or.inl rfl | exact Or.inr rfl | (simp only; omega)))) (by omega) _ (lv_sub hl [5, 1, 0] rfl)
                        · skip
                          exact absurd c_58 (by decide)
                      · skip
                        have c_56' : z_8.toInt > 57 := jb_le_n (rfl) ((by decide)) c_56
                        refine lv_iconst (v := (-1)) hx hb dX4_fourDigits_94 (by decide) ?_
                        rw [hQ]
                        exact W.iret (v := (-1)) hx hb hr (fun t ht hW => ⟨⟨(-1), wt_1, rfl, by first | omega | (refine ⟨?_, ?_, ?_⟩ <;> (first | omega | rfl | assumption | decide | exact Or.inl rfl | exact Or.inr rfl | (simp only; omega))), hh_1.rt (M1 := [(r0, 6, 11, .int wt_1)]) [0] rfl ht⟩, by rw [ht]; try exact hh_1.1.1, fun q h9 hq => by rw [ht]; try exact hh_1.1.2.1 q h9 hq⟩) hh_1.1.2.2 dX4_fourDigits_95
                · skip
                  have c_53' : z_8.toInt ≤ 102 := jb_gt_n (rfl) ((by decide)) c_53
                  refine lv_iconst (v := 1) hx hb dX4_fourDigits_70 (by decide) ?_
                  refine lv_goto (tgt := 75) hx hb dX4_fourDigits_71 (by decide) ?_
                  refine lv_istore (lv' := [(5, .int 1), (4, .int z_8), (3, .int z_8), (0, .ref r0), (1, .int v1_1), (2, .int v2_1)]) hx hb dX4_fourDigits_75 hl (by decide) rfl (fun ls hl => ?_)
                  refine lv_iload hx hb dX4_fourDigits_77 (lv_at hl 0 rfl) ?_
                  refine lv_if_ne (tgt := 96) hx hb dX4_fourDigits_79 (by decide) (fun c_64 => ?_) (fun c_64 => ?_)
                  · skip
                    refine lv_iload_n hx hb dX4_fourDigits_96 rfl (lv_at hl 4 rfl) ?_
                    refine lv_iconst (v := 4) hx hb dX4_fourDigits_97 (by decide) ?_
                    refine lv_ishl hx hb dX4_fourDigits_98 ?_
                    refine lv_topi (fun z_65 ez_65 => ?_)
                    refine lv_iload hx hb dX4_fourDigits_99 (lv_at hl 0 rfl) ?_
                    refine lv_if_eq (tgt := 115) hx hb dX4_fourDigits_101 (by decide) (fun c_66 => ?_) (fun c_66 => ?_)
                    · skip
                      exact absurd c_66 (by decide)
                    · skip
                      refine lv_iload hx hb dX4_fourDigits_104 (lv_at hl 1 rfl) ?_
                      refine lv_bipush (v := 97) hx hb dX4_fourDigits_106 (by decide) ?_
                      refine lv_isub hx hb dX4_fourDigits_108 ?_
                      refine lv_topi (fun z_67 ez_67 => ?_)
                      have hz_67 : z_67.toInt = z_8.toInt - 97 := by rw [ez_67]; exact jb_isub2 (rfl) ((by decide)) (by omega)
                      refine lv_bipush (v := 10) hx hb dX4_fourDigits_109 (by decide) ?_
                      refine lv_iadd hx hb dX4_fourDigits_111 ?_
                      refine lv_topi (fun z_68 ez_68 => ?_)
                      have hz_68 : z_68.toInt = z_67.toInt + 10 := by rw [ez_68]; exact jb_iadd2 (rfl) ((by decide)) (by omega)
                      refine lv_goto (tgt := 119) hx hb dX4_fourDigits_112 (by decide) ?_
                      refine lv_ior hx hb dX4_fourDigits_119 ?_
                      refine lv_topi (fun z_69 ez_69 => ?_)
                      refine lv_istore_n (lv' := [(1, .int z_69), (5, .int 1), (4, .int z_8), (3, .int z_8), (0, .ref r0), (2, .int v2_1)]) hx hb dX4_fourDigits_120 rfl hl (by decide) rfl (fun ls hl => ?_)
                      refine lv_aload_n hx hb dX4_fourDigits_121 rfl (lv_at hl 4 rfl) ?_
                      refine lv_dup hx hb dX4_fourDigits_122 rfl ?_
                      refine j7_read hx hb hown hK (C := RX4) (T := TX4) (N := 12) rfl hly_6_11 hlk_47 (hh_1.at 0 rfl) dX4_fourDigits_123 ?_
                      refine lv_iconst (v := 1) hx hb dX4_fourDigits_126 (by decide) ?_
                      refine lv_iadd hx hb dX4_fourDigits_127 ?_
                      refine lv_topi (fun z_70 ez_70 => ?_)
                      have hz_70 : z_70.toInt = wt_1.toInt + 1 := by rw [ez_70]; exact jb_iadd2 (rfl) ((by decide)) (by omega)
                      refine j7_put hx hb hown hK hh_1 hB hAp hB6 (C := RX4) (T := TX4) (N := 12) rfl (by decide) hg_r0 (i := 11) (by decide) hly_6_11 rfl hlk_47 rfl (ty := .int) (v := .int z_70) (by decide +kernel) rfl rfl (⟨_, rfl, by omega, by omega⟩) rfl (L1 := [(r0, 6, 9, .ref rb), (r0, 6, 10, .int pe)]) [1, 2] rfl rfl rfl dX4_fourDigits_128 (fun H_71 locs_71 hh_71 => ?_)
                      clear hh_1
                      obtain ⟨z_72, ez_72⟩ : ∃ y : Int32, y = v2_1 + 1 := ⟨_, rfl⟩
                      refine lv_iinc (v := z_72) (lv' := [(2, .int z_72), (1, .int z_69), (5, .int 1), (4, .int z_8), (3, .int z_8), (0, .ref r0)]) hx hb dX4_fourDigits_131 hl (k := 5) rfl (by rw [ez_72]; rfl) (by decide) rfl (fun ls hl => ?_)
                      have hz_72 : z_72.toInt = v2_1.toInt + 1 := by rw [ez_72]; exact jb_iadd2 (rfl) (by decide) (by omega)
                      refine lv_goto (tgt := 4) hx hb dX4_fourDigits_134 (by decide) ?_
                      exact L4 z_69 z_72 z_70 _ _ hh_71 (by first | omega | (refine ⟨?_, ?_, ?_, ?_⟩ <;> (first | omega | rfl | assumption | decide | exact Or.inl rfl | exact Or.inr rfl | (simp only; omega)))) (by omega) _ (lv_sub hl [5, 1, 0] rfl)
                  · skip
                    exact absurd c_64 (by decide)
            · skip
              have c_41' : z_8.toInt ≤ 70 := jb_gt_n (rfl) ((by decide)) c_41
              refine lv_iload_n hx hb dX4_fourDigits_46 rfl (lv_at hl 0 rfl) ?_
              refine lv_bipush (v := 32) hx hb dX4_fourDigits_47 (by decide) ?_
              refine lv_iadd hx hb dX4_fourDigits_49 ?_
              refine lv_topi (fun z_73 ez_73 => ?_)
              have hz_73 : z_73.toInt = z_8.toInt + 32 := by rw [ez_73]; exact jb_iadd2 (rfl) ((by decide)) (by omega)
              refine lv_goto (tgt := 54) hx hb dX4_fourDigits_50 (by decide) ?_
              refine lv_istore (lv' := [(4, .int z_73), (3, .int z_8), (0, .ref r0), (1, .int v1_1), (2, .int v2_1)]) hx hb dX4_fourDigits_54 hl (by decide) rfl (fun ls hl => ?_)
              refine lv_iload hx hb dX4_fourDigits_56 (lv_at hl 0 rfl) ?_
              refine lv_bipush (v := 97) hx hb dX4_fourDigits_58 (by decide) ?_
              refine lv_icmp_lt (tgt := 74) hx hb dX4_fourDigits_60 (by decide) (fun c_74 => ?_) (fun c_74 => ?_)
              · skip
                have c_74' : z_73.toInt < 97 := jb_lt (rfl) ((by decide)) c_74
                refine lv_iconst (v := 0) hx hb dX4_fourDigits_74 (by decide) ?_
                refine lv_istore (lv' := [(5, .int 0), (4, .int z_73), (3, .int z_8), (0, .ref r0), (1, .int v1_1), (2, .int v2_1)]) hx hb dX4_fourDigits_75 hl (by decide) rfl (fun ls hl => ?_)
                refine lv_iload hx hb dX4_fourDigits_77 (lv_at hl 0 rfl) ?_
                refine lv_if_ne (tgt := 96) hx hb dX4_fourDigits_79 (by decide) (fun c_75 => ?_) (fun c_75 => ?_)
                · skip
                  exact absurd c_75 (by decide)
                · skip
                  refine lv_iload_n hx hb dX4_fourDigits_82 rfl (lv_at hl 2 rfl) ?_
                  refine lv_bipush (v := 48) hx hb dX4_fourDigits_83 (by decide) ?_
                  refine lv_icmp_lt (tgt := 94) hx hb dX4_fourDigits_85 (by decide) (fun c_76 => ?_) (fun c_76 => ?_)
                  · skip
                    have c_76' : z_8.toInt < 48 := jb_lt (rfl) ((by decide)) c_76
                    refine lv_iconst (v := (-1)) hx hb dX4_fourDigits_94 (by decide) ?_
                    rw [hQ]
                    exact W.iret (v := (-1)) hx hb hr (fun t ht hW => ⟨⟨(-1), wt_1, rfl, by first | omega | (refine ⟨?_, ?_, ?_⟩ <;> (first | omega | rfl | assumption | decide | exact Or.inl rfl | exact Or.inr rfl | (simp only; omega))), hh_1.rt (M1 := [(r0, 6, 11, .int wt_1)]) [0] rfl ht⟩, by rw [ht]; try exact hh_1.1.1, fun q h9 hq => by rw [ht]; try exact hh_1.1.2.1 q h9 hq⟩) hh_1.1.2.2 dX4_fourDigits_95
                  · skip
                    have c_76' : z_8.toInt ≥ 48 := jb_lt_n (rfl) ((by decide)) c_76
                    refine lv_iload_n hx hb dX4_fourDigits_88 rfl (lv_at hl 2 rfl) ?_
                    refine lv_bipush (v := 57) hx hb dX4_fourDigits_89 (by decide) ?_
                    refine lv_icmp_le (tgt := 96) hx hb dX4_fourDigits_91 (by decide) (fun c_77 => ?_) (fun c_77 => ?_)
                    · skip
                      have c_77' : z_8.toInt ≤ 57 := jb_le (rfl) ((by decide)) c_77
                      refine lv_iload_n hx hb dX4_fourDigits_96 rfl (lv_at hl 4 rfl) ?_
                      refine lv_iconst (v := 4) hx hb dX4_fourDigits_97 (by decide) ?_
                      refine lv_ishl hx hb dX4_fourDigits_98 ?_
                      refine lv_topi (fun z_78 ez_78 => ?_)
                      refine lv_iload hx hb dX4_fourDigits_99 (lv_at hl 0 rfl) ?_
                      refine lv_if_eq (tgt := 115) hx hb dX4_fourDigits_101 (by decide) (fun c_79 => ?_) (fun c_79 => ?_)
                      · skip
                        refine lv_iload_n hx hb dX4_fourDigits_115 rfl (lv_at hl 2 rfl) ?_
                        refine lv_bipush (v := 48) hx hb dX4_fourDigits_116 (by decide) ?_
                        refine lv_isub hx hb dX4_fourDigits_118 ?_
                        refine lv_topi (fun z_80 ez_80 => ?_)
                        have hz_80 : z_80.toInt = z_8.toInt - 48 := by rw [ez_80]; exact jb_isub2 (rfl) ((by decide)) (by omega)
                        refine lv_ior hx hb dX4_fourDigits_119 ?_
                        refine lv_topi (fun z_81 ez_81 => ?_)
                        refine lv_istore_n (lv' := [(1, .int z_81), (5, .int 0), (4, .int z_73), (3, .int z_8), (0, .ref r0), (2, .int v2_1)]) hx hb dX4_fourDigits_120 rfl hl (by decide) rfl (fun ls hl => ?_)
                        refine lv_aload_n hx hb dX4_fourDigits_121 rfl (lv_at hl 4 rfl) ?_
                        refine lv_dup hx hb dX4_fourDigits_122 rfl ?_
                        refine j7_read hx hb hown hK (C := RX4) (T := TX4) (N := 12) rfl hly_6_11 hlk_47 (hh_1.at 0 rfl) dX4_fourDigits_123 ?_
                        refine lv_iconst (v := 1) hx hb dX4_fourDigits_126 (by decide) ?_
                        refine lv_iadd hx hb dX4_fourDigits_127 ?_
                        refine lv_topi (fun z_82 ez_82 => ?_)
                        have hz_82 : z_82.toInt = wt_1.toInt + 1 := by rw [ez_82]; exact jb_iadd2 (rfl) ((by decide)) (by omega)
                        refine j7_put hx hb hown hK hh_1 hB hAp hB6 (C := RX4) (T := TX4) (N := 12) rfl (by decide) hg_r0 (i := 11) (by decide) hly_6_11 rfl hlk_47 rfl (ty := .int) (v := .int z_82) (by decide +kernel) rfl rfl (⟨_, rfl, by omega, by omega⟩) rfl (L1 := [(r0, 6, 9, .ref rb), (r0, 6, 10, .int pe)]) [1, 2] rfl rfl rfl dX4_fourDigits_128 (fun H_83 locs_83 hh_83 => ?_)
                        clear hh_1
                        obtain ⟨z_84, ez_84⟩ : ∃ y : Int32, y = v2_1 + 1 := ⟨_, rfl⟩
                        refine lv_iinc (v := z_84) (lv' := [(2, .int z_84), (1, .int z_81), (5, .int 0), (4, .int z_73), (3, .int z_8), (0, .ref r0)]) hx hb dX4_fourDigits_131 hl (k := 5) rfl (by rw [ez_84]; rfl) (by decide) rfl (fun ls hl => ?_)
                        have hz_84 : z_84.toInt = v2_1.toInt + 1 := by rw [ez_84]; exact jb_iadd2 (rfl) (by decide) (by omega)
                        refine lv_goto (tgt := 4) hx hb dX4_fourDigits_134 (by decide) ?_
                        exact L4 z_81 z_84 z_82 _ _ hh_83 (by first | omega | (refine ⟨?_, ?_, ?_, ?_⟩ <;> (first | omega | rfl | assumption | decide | exact Or.inl rfl | exact Or.inr rfl | (simp only; omega)))) (by omega) _ (lv_sub hl [5, 1, 0] rfl)
                      · skip
                        exact absurd c_79 (by decide)
                    · skip
                      have c_77' : z_8.toInt > 57 := jb_le_n (rfl) ((by decide)) c_77
                      refine lv_iconst (v := (-1)) hx hb dX4_fourDigits_94 (by decide) ?_
                      rw [hQ]
                      exact W.iret (v := (-1)) hx hb hr (fun t ht hW => ⟨⟨(-1), wt_1, rfl, by first | omega | (refine ⟨?_, ?_, ?_⟩ <;> (first | omega | rfl | assumption | decide | exact Or.inl rfl | exact Or.inr rfl | (simp only; omega))), hh_1.rt (M1 := [(r0, 6, 11, .int wt_1)]) [0] rfl ht⟩, by rw [ht]; try exact hh_1.1.1, fun q h9 hq => by rw [ht]; try exact hh_1.1.2.1 q h9 hq⟩) hh_1.1.2.2 dX4_fourDigits_95
              · skip
                have c_74' : z_73.toInt ≥ 97 := jb_lt_n (rfl) ((by decide)) c_74
                refine lv_iload hx hb dX4_fourDigits_63 (lv_at hl 0 rfl) ?_
                refine lv_bipush (v := 102) hx hb dX4_fourDigits_65 (by decide) ?_
                refine lv_icmp_gt (tgt := 74) hx hb dX4_fourDigits_67 (by decide) (fun c_85 => ?_) (fun c_85 => ?_)
                · skip
                  have c_85' : z_73.toInt > 102 := jb_gt (rfl) ((by decide)) c_85
                  refine lv_iconst (v := 0) hx hb dX4_fourDigits_74 (by decide) ?_
                  refine lv_istore (lv' := [(5, .int 0), (4, .int z_73), (3, .int z_8), (0, .ref r0), (1, .int v1_1), (2, .int v2_1)]) hx hb dX4_fourDigits_75 hl (by decide) rfl (fun ls hl => ?_)
                  refine lv_iload hx hb dX4_fourDigits_77 (lv_at hl 0 rfl) ?_
                  refine lv_if_ne (tgt := 96) hx hb dX4_fourDigits_79 (by decide) (fun c_86 => ?_) (fun c_86 => ?_)
                  · skip
                    exact absurd c_86 (by decide)
                  · skip
                    refine lv_iload_n hx hb dX4_fourDigits_82 rfl (lv_at hl 2 rfl) ?_
                    refine lv_bipush (v := 48) hx hb dX4_fourDigits_83 (by decide) ?_
                    refine lv_icmp_lt (tgt := 94) hx hb dX4_fourDigits_85 (by decide) (fun c_87 => ?_) (fun c_87 => ?_)
                    · skip
                      have c_87' : z_8.toInt < 48 := jb_lt (rfl) ((by decide)) c_87
                      refine lv_iconst (v := (-1)) hx hb dX4_fourDigits_94 (by decide) ?_
                      rw [hQ]
                      exact W.iret (v := (-1)) hx hb hr (fun t ht hW => ⟨⟨(-1), wt_1, rfl, by first | omega | (refine ⟨?_, ?_, ?_⟩ <;> (first | omega | rfl | assumption | decide | exact Or.inl rfl | exact Or.inr rfl | (simp only; omega))), hh_1.rt (M1 := [(r0, 6, 11, .int wt_1)]) [0] rfl ht⟩, by rw [ht]; try exact hh_1.1.1, fun q h9 hq => by rw [ht]; try exact hh_1.1.2.1 q h9 hq⟩) hh_1.1.2.2 dX4_fourDigits_95
                    · skip
                      have c_87' : z_8.toInt ≥ 48 := jb_lt_n (rfl) ((by decide)) c_87
                      refine lv_iload_n hx hb dX4_fourDigits_88 rfl (lv_at hl 2 rfl) ?_
                      refine lv_bipush (v := 57) hx hb dX4_fourDigits_89 (by decide) ?_
                      refine lv_icmp_le (tgt := 96) hx hb dX4_fourDigits_91 (by decide) (fun c_88 => ?_) (fun c_88 => ?_)
                      · skip
                        have c_88' : z_8.toInt ≤ 57 := jb_le (rfl) ((by decide)) c_88
                        refine lv_iload_n hx hb dX4_fourDigits_96 rfl (lv_at hl 4 rfl) ?_
                        refine lv_iconst (v := 4) hx hb dX4_fourDigits_97 (by decide) ?_
                        refine lv_ishl hx hb dX4_fourDigits_98 ?_
                        refine lv_topi (fun z_89 ez_89 => ?_)
                        refine lv_iload hx hb dX4_fourDigits_99 (lv_at hl 0 rfl) ?_
                        refine lv_if_eq (tgt := 115) hx hb dX4_fourDigits_101 (by decide) (fun c_90 => ?_) (fun c_90 => ?_)
                        · skip
                          refine lv_iload_n hx hb dX4_fourDigits_115 rfl (lv_at hl 2 rfl) ?_
                          refine lv_bipush (v := 48) hx hb dX4_fourDigits_116 (by decide) ?_
                          refine lv_isub hx hb dX4_fourDigits_118 ?_
                          refine lv_topi (fun z_91 ez_91 => ?_)
                          have hz_91 : z_91.toInt = z_8.toInt - 48 := by rw [ez_91]; exact jb_isub2 (rfl) ((by decide)) (by omega)
                          refine lv_ior hx hb dX4_fourDigits_119 ?_
                          refine lv_topi (fun z_92 ez_92 => ?_)
                          refine lv_istore_n (lv' := [(1, .int z_92), (5, .int 0), (4, .int z_73), (3, .int z_8), (0, .ref r0), (2, .int v2_1)]) hx hb dX4_fourDigits_120 rfl hl (by decide) rfl (fun ls hl => ?_)
                          refine lv_aload_n hx hb dX4_fourDigits_121 rfl (lv_at hl 4 rfl) ?_
                          refine lv_dup hx hb dX4_fourDigits_122 rfl ?_
                          refine j7_read hx hb hown hK (C := RX4) (T := TX4) (N := 12) rfl hly_6_11 hlk_47 (hh_1.at 0 rfl) dX4_fourDigits_123 ?_
                          refine lv_iconst (v := 1) hx hb dX4_fourDigits_126 (by decide) ?_
                          refine lv_iadd hx hb dX4_fourDigits_127 ?_
                          refine lv_topi (fun z_93 ez_93 => ?_)
                          have hz_93 : z_93.toInt = wt_1.toInt + 1 := by rw [ez_93]; exact jb_iadd2 (rfl) ((by decide)) (by omega)
                          refine j7_put hx hb hown hK hh_1 hB hAp hB6 (C := RX4) (T := TX4) (N := 12) rfl (by decide) hg_r0 (i := 11) (by decide) hly_6_11 rfl hlk_47 rfl (ty := .int) (v := .int z_93) (by decide +kernel) rfl rfl (⟨_, rfl, by omega, by omega⟩) rfl (L1 := [(r0, 6, 9, .ref rb), (r0, 6, 10, .int pe)]) [1, 2] rfl rfl rfl dX4_fourDigits_128 (fun H_94 locs_94 hh_94 => ?_)
                          clear hh_1
                          obtain ⟨z_95, ez_95⟩ : ∃ y : Int32, y = v2_1 + 1 := ⟨_, rfl⟩
                          refine lv_iinc (v := z_95) (lv' := [(2, .int z_95), (1, .int z_92), (5, .int 0), (4, .int z_73), (3, .int z_8), (0, .ref r0)]) hx hb dX4_fourDigits_131 hl (k := 5) rfl (by rw [ez_95]; rfl) (by decide) rfl (fun ls hl => ?_)
                          have hz_95 : z_95.toInt = v2_1.toInt + 1 := by rw [ez_95]; exact jb_iadd2 (rfl) (by decide) (by omega)
                          refine lv_goto (tgt := 4) hx hb dX4_fourDigits_134 (by decide) ?_
                          exact L4 z_92 z_95 z_93 _ _ hh_94 (by first | omega | (refine ⟨?_, ?_, ?_, ?_⟩ <;> (first | omega | rfl | assumption | decide | exact Or.inl rfl | exact Or.inr rfl | (simp only; omega)))) (by omega) _ (lv_sub hl [5, 1, 0] rfl)
                        · skip
                          exact absurd c_90 (by decide)
                      · skip
                        have c_88' : z_8.toInt > 57 := jb_le_n (rfl) ((by decide)) c_88
                        refine lv_iconst (v := (-1)) hx hb dX4_fourDigits_94 (by decide) ?_
                        rw [hQ]
                        exact W.iret (v := (-1)) hx hb hr (fun t ht hW => ⟨⟨(-1), wt_1, rfl, by first | omega | (refine ⟨?_, ?_, ?_⟩ <;> (first | omega | rfl | assumption | decide | exact Or.inl rfl | exact Or.inr rfl | (simp only; omega))), hh_1.rt (M1 := [(r0, 6, 11, .int wt_1)]) [0] rfl ht⟩, by rw [ht]; try exact hh_1.1.1, fun q h9 hq => by rw [ht]; try exact hh_1.1.2.1 q h9 hq⟩) hh_1.1.2.2 dX4_fourDigits_95
                · skip
                  have c_85' : z_73.toInt ≤ 102 := jb_gt_n (rfl) ((by decide)) c_85
                  refine lv_iconst (v := 1) hx hb dX4_fourDigits_70 (by decide) ?_
                  refine lv_goto (tgt := 75) hx hb dX4_fourDigits_71 (by decide) ?_
                  refine lv_istore (lv' := [(5, .int 1), (4, .int z_73), (3, .int z_8), (0, .ref r0), (1, .int v1_1), (2, .int v2_1)]) hx hb dX4_fourDigits_75 hl (by decide) rfl (fun ls hl => ?_)
                  refine lv_iload hx hb dX4_fourDigits_77 (lv_at hl 0 rfl) ?_
                  refine lv_if_ne (tgt := 96) hx hb dX4_fourDigits_79 (by decide) (fun c_96 => ?_) (fun c_96 => ?_)
                  · skip
                    refine lv_iload_n hx hb dX4_fourDigits_96 rfl (lv_at hl 4 rfl) ?_
                    refine lv_iconst (v := 4) hx hb dX4_fourDigits_97 (by decide) ?_
                    refine lv_ishl hx hb dX4_fourDigits_98 ?_
                    refine lv_topi (fun z_97 ez_97 => ?_)
                    refine lv_iload hx hb dX4_fourDigits_99 (lv_at hl 0 rfl) ?_
                    refine lv_if_eq (tgt := 115) hx hb dX4_fourDigits_101 (by decide) (fun c_98 => ?_) (fun c_98 => ?_)
                    · skip
                      exact absurd c_98 (by decide)
                    · skip
                      refine lv_iload hx hb dX4_fourDigits_104 (lv_at hl 1 rfl) ?_
                      refine lv_bipush (v := 97) hx hb dX4_fourDigits_106 (by decide) ?_
                      refine lv_isub hx hb dX4_fourDigits_108 ?_
                      refine lv_topi (fun z_99 ez_99 => ?_)
                      have hz_99 : z_99.toInt = z_73.toInt - 97 := by rw [ez_99]; exact jb_isub2 (rfl) ((by decide)) (by omega)
                      refine lv_bipush (v := 10) hx hb dX4_fourDigits_109 (by decide) ?_
                      refine lv_iadd hx hb dX4_fourDigits_111 ?_
                      refine lv_topi (fun z_100 ez_100 => ?_)
                      have hz_100 : z_100.toInt = z_99.toInt + 10 := by rw [ez_100]; exact jb_iadd2 (rfl) ((by decide)) (by omega)
                      refine lv_goto (tgt := 119) hx hb dX4_fourDigits_112 (by decide) ?_
                      refine lv_ior hx hb dX4_fourDigits_119 ?_
                      refine lv_topi (fun z_101 ez_101 => ?_)
                      refine lv_istore_n (lv' := [(1, .int z_101), (5, .int 1), (4, .int z_73), (3, .int z_8), (0, .ref r0), (2, .int v2_1)]) hx hb dX4_fourDigits_120 rfl hl (by decide) rfl (fun ls hl => ?_)
                      refine lv_aload_n hx hb dX4_fourDigits_121 rfl (lv_at hl 4 rfl) ?_
                      refine lv_dup hx hb dX4_fourDigits_122 rfl ?_
                      refine j7_read hx hb hown hK (C := RX4) (T := TX4) (N := 12) rfl hly_6_11 hlk_47 (hh_1.at 0 rfl) dX4_fourDigits_123 ?_
                      refine lv_iconst (v := 1) hx hb dX4_fourDigits_126 (by decide) ?_
                      refine lv_iadd hx hb dX4_fourDigits_127 ?_
                      refine lv_topi (fun z_102 ez_102 => ?_)
                      have hz_102 : z_102.toInt = wt_1.toInt + 1 := by rw [ez_102]; exact jb_iadd2 (rfl) ((by decide)) (by omega)
                      refine j7_put hx hb hown hK hh_1 hB hAp hB6 (C := RX4) (T := TX4) (N := 12) rfl (by decide) hg_r0 (i := 11) (by decide) hly_6_11 rfl hlk_47 rfl (ty := .int) (v := .int z_102) (by decide +kernel) rfl rfl (⟨_, rfl, by omega, by omega⟩) rfl (L1 := [(r0, 6, 9, .ref rb), (r0, 6, 10, .int pe)]) [1, 2] rfl rfl rfl dX4_fourDigits_128 (fun H_103 locs_103 hh_103 => ?_)
                      clear hh_1
                      obtain ⟨z_104, ez_104⟩ : ∃ y : Int32, y = v2_1 + 1 := ⟨_, rfl⟩
                      refine lv_iinc (v := z_104) (lv' := [(2, .int z_104), (1, .int z_101), (5, .int 1), (4, .int z_73), (3, .int z_8), (0, .ref r0)]) hx hb dX4_fourDigits_131 hl (k := 5) rfl (by rw [ez_104]; rfl) (by decide) rfl (fun ls hl => ?_)
                      have hz_104 : z_104.toInt = v2_1.toInt + 1 := by rw [ez_104]; exact jb_iadd2 (rfl) (by decide) (by omega)
                      refine lv_goto (tgt := 4) hx hb dX4_fourDigits_134 (by decide) ?_
                      exact L4 z_101 z_104 z_102 _ _ hh_103 (by first | omega | (refine ⟨?_, ?_, ?_, ?_⟩ <;> (first | omega | rfl | assumption | decide | exact Or.inl rfl | exact Or.inr rfl | (simp only; omega)))) (by omega) _ (lv_sub hl [5, 1, 0] rfl)
                  · skip
                    exact absurd c_96 (by decide)
  exact L4 (4 - (0 : Int32).toInt : Int).toNat.succ 0 0 pt _ _ (hh.sub (L1 := [(r0, 6, 11, .int pt), (r0, 6, 9, .ref rb), (r0, 6, 10, .int pe)]) [2, 0, 1] rfl (M1 := []) [] rfl (I1 := []) [] rfl) (by first | omega | (refine ⟨?_, ?_, ?_, ?_⟩ <;> (first | omega | rfl | assumption | decide | exact Or.inl rfl | exact Or.inr rfl | (simp only; omega)))) (by omega) _ (lv_sub hl [2, 1, 0] rfl)
set_option maxHeartbeats 4000000 in
set_option maxRecDepth 20000 in
theorem uX4_isEscapeP (l : Launch) (dC : Nat → ClassId) (dI : Nat → Nat → Nat) (ca : Nat → ClassId) (base : Nat) (B : jF) (hB : jBok B) (hAp : jAp (dC, dI)) (hB6 : ∀ n G a H, B 6 n G a H ↔ jOb (dC, dI) 6 12 (F6 n G) a H) (hB100 : ∀ n G a H, B 100 n G a H ↔ jAr (dC, dI) (ca 0) (fun j z => True) n a H) (hB146 : ∀ n G a H, B 146 n G a H ↔ jAr (dC, dI) (ca 1) (fun j z => True) n a H) (G0 : jT) (H0 : Heap) (r0 : Nat) (rb : Nat) (n_rb : Nat) (pe : Int32) (pt : Int32) (pu : Int32) : Met l yX4_isEscape (jw yX4_isEscape cX4_isEscape 2 (some .boolean)) ({ frames := 1, cells := 0, slots := 0, locals := 21 }) (va_Pc [.ref r0] (fun U => U.heap = H0 ∧ jX B base G0 [] H0 ∧ jG dC dI ca base U ∧ G0 r0 = some (6, 0) ∧ G0 rb = some (100, n_rb) ∧ jP (dC, dI) G0 H0 [(r0, 6, 9, .ref rb), (r0, 6, 10, .int pe), (r0, 6, 11, .int pt), (r0, 6, 8, .int pu)] ∧ 0 ≤ pe.toInt ∧ pe.toInt ≤ n_rb ∧ n_rb ≤ 3000 ∧ 0 ≤ pt.toInt ∧ pt.toInt ≤ 19000 ∧ pt.toInt < pe.toInt ∧ 0 ≤ pu.toInt ∧ pu.toInt ≤ 3000)) (va_Qi (S := Int32 × Int32) (fun r u => (r = 0 ∨ r = 1) ∧ (pt.toInt + 2 ≤ u.1.toInt ∧ u.1.toInt ≤ pe.toInt + 1 - r.toInt ∧ pu.toInt ≤ u.2.toInt ∧ u.2.toInt ≤ pu.toInt + 1 ∧ u.2.toInt ≤ 3000)) (fun u t => jRt (dC, dI) B base G0 EX4_isEscapeP H0 [(r0, 6, 11, .int u.1), (r0, 6, 8, .int u.2)] t.heap) (jA base)) 0 0 (jA base) := by
  refine Met.ofW (cc := cX4_isEscape) (maxL := 2) (ret := (some .boolean)) (by decide) rfl ?_
  intro p e s m args below meth c s₁ Bd hml hv
  obtain ⟨rfl, hH0, hX, hG, hg_r0, hg_rb, hP0, hp0, hp1, hp2, hp3, hp4, hp5, hp6, hp7⟩ := hv
  have hK := hG.1
  have hx := Bd.exec
  have hb := Bd.bytes
  have hr := Bd.returns
  have hts := atoms_spec (ws := (jw yX4_isEscape cX4_isEscape 2 (some .boolean))) Bd.pre
  have htw : ∀ w ∈ jWl, w.before _ s = true := fun w h => hts w (List.mem_cons_of_mem _ h)
  have hown : s.vm.findClass RX4 = some m.cls := findClass_of_methodNamed Bd.named
  have hlocks := Bd.notSynchronized
  obtain ⟨Q, hQ⟩ : ∃ Q, Q = MQ below (va_Qi (S := Int32 × Int32) (fun r u => (r = 0 ∨ r = 1) ∧ (pt.toInt + 2 ≤ u.1.toInt ∧ u.1.toInt ≤ pe.toInt + 1 - r.toInt ∧ pu.toInt ≤ u.2.toInt ∧ u.2.toInt ≤ pu.toInt + 1 ∧ u.2.toInt ≤ 3000)) (fun u t => jRt (dC, dI) B base G0 EX4_isEscapeP H0 [(r0, 6, 11, .int u.1), (r0, 6, 8, .int u.2)] t.heap) (jA base)) ([.ref r0] : List Value).toArray s 0 0 (jA base) := ⟨_, rfl⟩
  rw [← hQ]
  have hl := lv_entry ([.ref r0]) (n := 2) (Nat.le_of_ble_eq_true rfl)
  rw [lg_entry_eq]
  generalize (lg_sl ([.ref r0]) ++ List.replicate (2 - (lg_sl ([.ref r0])).length) Slot.unset).toArray = ls at hl ⊢
  have hl : lv_has ls 2 [(0, .ref r0)] := hl
  generalize hR : (headSpec (jw yX4_isEscape cX4_isEscape 2 (some .boolean)) ({ frames := 1, cells := 0, slots := 0, locals := 21 })).room = R
  subst hH0
  have hh : jSt (dC, dI) B base G0 G0 EX4_isEscapeP s.heap 0 0 [(r0, 6, 9, .ref rb), (r0, 6, 10, .int pe), (r0, 6, 11, .int pt), (r0, 6, 8, .int pu)] [] [] s.heap [] := jSt.start hX hP0 jMc.nil jIs.nil
  clear hX hP0
  have hk0 : (0 : Int32).toInt = 0 := by decide
  have hk1 : (1 : Int32).toInt = 1 := by decide
  have hk8 : (8 : Int32).toInt = 8 := by decide
  have hk9 : (9 : Int32).toInt = 9 := by decide
  have hk10 : (10 : Int32).toInt = 10 := by decide
  have hk12 : (12 : Int32).toInt = 12 := by decide
  have hk13 : (13 : Int32).toInt = 13 := by decide
  have hly_6_11 := htw (u_lay RX4 TX4 11) (jWc_wsX40 _ (u_in_lay (by decide)))
  have hlk_47 := (htw (.fieldLink RX4 47 "ProofServer$Json" "at" "I") (jWr_19 _ (List.mem_of_getElem? (i := 12) rfl)))
  refine lv_aload_n hx hb dX4_isEscape_0 rfl (lv_at hl 0 rfl) ?_
  refine lv_dup hx hb dX4_isEscape_1 rfl ?_
  refine j7_read hx hb hown hK (C := RX4) (T := TX4) (N := 12) rfl hly_6_11 hlk_47 (hh.at 2 rfl) dX4_isEscape_2 ?_
  refine lv_iconst (v := 1) hx hb dX4_isEscape_5 (by decide) ?_
  refine lv_iadd hx hb dX4_isEscape_6 ?_
  refine lv_topi (fun z_1 ez_1 => ?_)
  have hz_1 : z_1.toInt = pt.toInt + 1 := by rw [ez_1]; exact jb_iadd2 (rfl) ((by decide)) (by omega)
  refine j7_put hx hb hown hK hh hB hAp hB6 (C := RX4) (T := TX4) (N := 12) rfl (by decide) hg_r0 (i := 11) (by decide) hly_6_11 rfl hlk_47 rfl (ty := .int) (v := .int z_1) (by decide +kernel) rfl rfl (⟨_, rfl, by omega, by omega⟩) rfl (L1 := [(r0, 6, 9, .ref rb), (r0, 6, 10, .int pe), (r0, 6, 8, .int pu)]) [0, 1, 3] rfl rfl rfl dX4_isEscape_7 (fun H_2 locs_2 hh_2 => ?_)
  clear hh
  refine lv_aload_n hx hb dX4_isEscape_10 rfl (lv_at hl 0 rfl) ?_
  refine va_calli (A0 := jA base) (H0 := s.heap) (va_runV (As := []) (rest := []) ⟨hx, hb, hml, hown, hts⟩ (uX4_peek l dC dI ca base B hB hAp hB6 hB100 G0 H_2 r0 rb n_rb pe z_1) (cwV 0 hts (jgV (jWr_19 _ (List.mem_of_getElem? (i := 19) rfl)) (jWr_19 _ (List.mem_of_getElem? (i := 20) rfl)) (jWr_19 _ (List.mem_of_getElem? (i := 21) rfl)) (jWr_1 _ (List.mem_of_getElem? (i := 22) rfl)) (jWr_19 _ (List.mem_of_getElem? (i := 22) rfl))) rfl rfl rfl (by decide +kernel) ⟨by rw [← hR]; exact Nat.le_of_ble_eq_true rfl, by rw [← hR]; exact Nat.le_of_ble_eq_true rfl⟩) ⟨fun a U g mk q => by obtain ⟨q0, q1, q2, qK, q10, q11, q12, q13⟩ := q; exact ⟨q0, q1, q2, jG.calling g mk a qK, q10, q11, q12, q13⟩, hh_2.recv (C := RX4) (T := TX4) (N := 12) hB6 rfl (by decide) hg_r0 hK, fun U hU hW => ⟨rfl, hU, hh_2.2.1, hG.step hW hU hh_2.1, hg_r0, hg_rb, (hh_2.2.2.1.sub (L1 := [(r0, 6, 9, .ref rb), (r0, 6, 10, .int pe), (r0, 6, 11, .int z_1)]) [1, 2, 0] rfl), by first | omega | (refine ⟨?_, ?_, ?_, ?_, ?_⟩ <;> (first | omega | rfl | assumption | decide | exact Or.inl rfl | exact Or.inr rfl | (simp only; omega)))⟩⟩ rfl rfl hl.1 rfl (lv_room (Nat.le_of_ble_eq_true rfl)) dX4_isEscape_11 ⟨Nat.zero_le _, Nat.zero_le _⟩) hh_2.1 (fun q _ h => h) (fun q h => h) (fun r_4 u_3 t_3 H_3 locs_3 ht_3 hvm_3 hr_4 hb_3 hz_3 hk_3 hS_3 => ?_)
  rw [ht_3] at hb_3
  obtain ⟨hb_31, hb_32, hb_33, hb_34, hb_35⟩ := hb_3
  have hh_3 : jSt (dC, dI) B base G0 G0 EX4_isEscapeP s.heap 0 0 [(r0, 6, 11, .int z_1), (r0, 6, 9, .ref rb), (r0, 6, 10, .int pe), (r0, 6, 8, .int pu)] [] [] H_3 locs_3 := ((hh_2.call hb_31 hb_32 hb_33 hb_34 hS_3 rfl (L1 := [(r0, 6, 11, .int z_1), (r0, 6, 9, .ref rb), (r0, 6, 10, .int pe), (r0, 6, 8, .int pu)]) [0, 1, 2, 3] rfl rfl (M1 := []) [] rfl rfl (I1 := []) [] rfl rfl).more hb_35)
  clear hh_2 ht_3 hvm_3 hz_3 hk_3 hS_3 hb_31 hb_32 hb_33 hb_34 hb_35
  obtain ⟨hr_4_0, hr_4_1, hr_4_2⟩ := hr_4
  refine lv_istore_n (lv' := [(1, .int r_4), (0, .ref r0)]) hx hb dX4_isEscape_14 rfl hl (by decide) rfl (fun ls hl => ?_)
  refine lv_aload_n hx hb dX4_isEscape_15 rfl (lv_at hl 1 rfl) ?_
  refine lv_dup hx hb dX4_isEscape_16 rfl ?_
  refine j7_read hx hb hown hK (C := RX4) (T := TX4) (N := 12) rfl hly_6_11 hlk_47 (hh_3.at 0 rfl) dX4_isEscape_17 ?_
  refine lv_iconst (v := 1) hx hb dX4_isEscape_20 (by decide) ?_
  refine lv_iadd hx hb dX4_isEscape_21 ?_
  refine lv_topi (fun z_5 ez_5 => ?_)
  have hz_5 : z_5.toInt = z_1.toInt + 1 := by rw [ez_5]; exact jb_iadd2 (rfl) ((by decide)) (by omega)
  refine j7_put hx hb hown hK hh_3 hB hAp hB6 (C := RX4) (T := TX4) (N := 12) rfl (by decide) hg_r0 (i := 11) (by decide) hly_6_11 rfl hlk_47 rfl (ty := .int) (v := .int z_5) (by decide +kernel) rfl rfl (⟨_, rfl, by omega, by omega⟩) rfl (L1 := [(r0, 6, 9, .ref rb), (r0, 6, 10, .int pe), (r0, 6, 8, .int pu)]) [1, 2, 3] rfl rfl rfl dX4_isEscape_22 (fun H_6 locs_6 hh_6 => ?_)
  clear hh_3
  refine lv_iload_n hx hb dX4_isEscape_25 rfl (lv_at hl 0 rfl) ?_
  have C100 : ∀ (H_8 : Heap) (locs_8 : List Loc), jSt (dC, dI) B base G0 G0 EX4_isEscapeP s.heap 0 0 [(r0, 6, 11, .int z_5), (r0, 6, 9, .ref rb), (r0, 6, 10, .int pe), (r0, 6, 8, .int pu)] [] [] H_8 locs_8 → (34 ≤ r_4.toInt ∧ r_4.toInt ≤ 92) → ∀ ls : Array Slot, lv_has ls 2 [(0, .ref r0), (1, .int r_4)] → W p l e R s m ([.ref r0] : List Value).toArray below meth c H_8 locs_8 0 0 Q (F0 m 100 ls []) := by
    intro  H_8 locs_8 hh_8  hi_8 ls hl
    obtain ⟨hi_8_0, hi_8_1⟩ := hi_8
    refine lv_aload_n hx hb dX4_isEscape_100 rfl (lv_at hl 0 rfl) ?_
    refine lv_iload_n hx hb dX4_isEscape_101 rfl (lv_at hl 1 rfl) ?_
    refine va_callv (A0 := jA base) (H0 := s.heap) (va_runV (As := [.int r_4]) (rest := []) ⟨hx, hb, hml, hown, hts⟩ (uX4_addUnitP l dC dI ca base B hB hAp hB6 hB146 G0 H_8 r0 r_4 pu) (cwV 1 hts (jgV (jWr_21 _ (List.mem_of_getElem? (i := 13) rfl)) (jWr_21 _ (List.mem_of_getElem? (i := 14) rfl)) (jWr_21 _ (List.mem_of_getElem? (i := 15) rfl)) (jWr_1 _ (List.mem_of_getElem? (i := 22) rfl)) (jWr_21 _ (List.mem_of_getElem? (i := 16) rfl))) rfl rfl rfl (by decide +kernel) ⟨by rw [← hR]; exact Nat.le_of_ble_eq_true rfl, by rw [← hR]; exact Nat.le_of_ble_eq_true rfl⟩) ⟨fun a U g mk q => by obtain ⟨q0, q1, q2, qK, q10, q11, q12⟩ := q; exact ⟨q0, q1, q2, jG.calling g mk a qK, q10, q11, q12⟩, hh_8.recv (C := RX4) (T := TX4) (N := 12) hB6 rfl (by decide) hg_r0 hK, fun U hU hW => ⟨rfl, hU, hh_8.2.1, hG.step hW hU hh_8.1, hg_r0, (hh_8.2.2.1.sub (L1 := [(r0, 6, 8, .int pu)]) [3] rfl), by first | omega | (refine ⟨?_, ?_⟩ <;> (first | omega | rfl | assumption | decide | exact Or.inl rfl | exact Or.inr rfl | (simp only; omega)))⟩⟩ rfl rfl hl.1 rfl (lv_room (Nat.le_of_ble_eq_true rfl)) dX4_isEscape_102 ⟨Nat.zero_le _, Nat.zero_le _⟩) hh_8.1 (fun q _ h => h) (fun q h => h) (fun u_9 t_9 H_9 locs_9 ht_9 hvm_9 hr_10 hb_9 hz_9 hk_9 hS_9 => ?_)
    obtain ⟨qu_9, rfl⟩ : ∃ z, z = u_9 := ⟨_, rfl⟩
    rw [ht_9] at hb_9
    obtain ⟨hb_91, hb_92, hb_93, hb_94, hb_95⟩ := hb_9
    have hh_9 : jSt (dC, dI) B base G0 G0 EX4_isEscapeP s.heap 0 0 [(r0, 6, 8, .int qu_9), (r0, 6, 11, .int z_5), (r0, 6, 9, .ref rb), (r0, 6, 10, .int pe)] [] [] H_9 locs_9 := ((hh_8.call hb_91 hb_92 hb_93 hb_94 hS_9 rfl (L1 := [(r0, 6, 11, .int z_5), (r0, 6, 9, .ref rb), (r0, 6, 10, .int pe)]) [0, 1, 2] rfl rfl (M1 := []) [] rfl rfl (I1 := []) [] rfl rfl).more hb_95)
    clear hh_8 ht_9 hvm_9 hz_9 hk_9 hS_9 hb_91 hb_92 hb_93 hb_94 hb_95
    obtain ⟨hr_10_0, hr_10_1, hr_10_2⟩ := hr_10
    refine lv_iconst (v := 1) hx hb dX4_isEscape_105 (by decide) ?_
    rw [hQ]
    exact W.zret (v := 1) hx hb hr (jb_nz (Or.inr rfl)) (fun t ht hW => ⟨⟨1, (z_5, qu_9), rfl, ⟨(Or.inr rfl), by first | omega | (refine ⟨?_, ?_, ?_, ?_, ?_⟩ <;> (first | omega | rfl | assumption | decide | exact Or.inl rfl | exact Or.inr rfl | (simp only; omega)))⟩, hh_9.rt (M1 := [(r0, 6, 11, .int z_5), (r0, 6, 8, .int qu_9)]) [1, 0] rfl ht⟩, by rw [ht]; try exact hh_9.1.1, fun q h9 hq => by rw [ht]; try exact hh_9.1.2.1 q h9 hq⟩) hh_9.1.2.2 dX4_isEscape_106
  rcases (by omega : (r_4.toInt ≠ 34 ∧ r_4.toInt ≠ 47 ∧ r_4.toInt ≠ 92 ∧ r_4.toInt ≠ 98 ∧ r_4.toInt ≠ 102 ∧ r_4.toInt ≠ 110 ∧ r_4.toInt ≠ 114 ∧ r_4.toInt ≠ 116) ∨ r_4.toInt = 34 ∨ r_4.toInt = 47 ∨ r_4.toInt = 92 ∨ r_4.toInt = 98 ∨ r_4.toInt = 102 ∨ r_4.toInt = 110 ∨ r_4.toInt = 114 ∨ r_4.toInt = 116) with c_7 | c_7 | c_7 | c_7 | c_7 | c_7 | c_7 | c_7 | c_7
  · refine lv_lookup (off := 121) (tgt := 147) hx hb dX4_isEscape_26 (by decide) (by show Op.lookupswitch.offset [(34, 74), (47, 74), (92, 74), (98, 81), (102, 89), (110, 97), (114, 105), (116, 113)] 121 r_4.toInt = 121; simp only [Op.lookupswitch.offset]; rw [if_neg (by omega), if_neg (by omega), if_neg (by omega), if_neg (by omega), if_neg (by omega), if_neg (by omega), if_neg (by omega), if_neg (by omega)]) (by decide) ?_
    refine lv_iconst (v := 0) hx hb dX4_isEscape_147 (by decide) ?_
    rw [hQ]
    exact W.zret (v := 0) hx hb hr (jb_nz (Or.inl rfl)) (fun t ht hW => ⟨⟨0, (z_5, pu), rfl, ⟨(Or.inl rfl), by first | omega | (refine ⟨?_, ?_, ?_, ?_, ?_⟩ <;> (first | omega | rfl | assumption | decide | exact Or.inl rfl | exact Or.inr rfl | (simp only; omega)))⟩, hh_6.rt (M1 := [(r0, 6, 11, .int z_5), (r0, 6, 8, .int pu)]) [0, 3] rfl ht⟩, by rw [ht]; try exact hh_6.1.1, fun q h9 hq => by rw [ht]; try exact hh_6.1.2.1 q h9 hq⟩) hh_6.1.2.2 dX4_isEscape_148
  · refine lv_lookup (off := 74) (tgt := 100) hx hb dX4_isEscape_26 (by decide) (by rw [c_7]; rfl) (by decide) ?_
    exact C100  _ _ hh_6 (by first | omega | (refine ⟨?_, ?_⟩ <;> (first | omega | rfl | assumption | decide | exact Or.inl rfl | exact Or.inr rfl | (simp only; omega)))) _ (lv_sub hl [1, 0] rfl)
  · refine lv_lookup (off := 74) (tgt := 100) hx hb dX4_isEscape_26 (by decide) (by rw [c_7]; rfl) (by decide) ?_
    exact C100  _ _ hh_6 (by first | omega | (refine ⟨?_, ?_⟩ <;> (first | omega | rfl | assumption | decide | exact Or.inl rfl | exact Or.inr rfl | (simp only; omega)))) _ (lv_sub hl [1, 0] rfl)
  · refine lv_lookup (off := 74) (tgt := 100) hx hb dX4_isEscape_26 (by decide) (by rw [c_7]; rfl) (by decide) ?_
    exact C100  _ _ hh_6 (by first | omega | (refine ⟨?_, ?_⟩ <;> (first | omega | rfl | assumption | decide | exact Or.inl rfl | exact Or.inr rfl | (simp only; omega)))) _ (lv_sub hl [1, 0] rfl)
  · refine lv_lookup (off := 81) (tgt := 107) hx hb dX4_isEscape_26 (by decide) (by rw [c_7]; rfl) (by decide) ?_
    refine lv_aload_n hx hb dX4_isEscape_107 rfl (lv_at hl 1 rfl) ?_
    refine lv_bipush (v := 8) hx hb dX4_isEscape_108 (by decide) ?_
    refine va_callv (A0 := jA base) (H0 := s.heap) (va_runV (As := [.int 8]) (rest := []) ⟨hx, hb, hml, hown, hts⟩ (uX4_addUnitP l dC dI ca base B hB hAp hB6 hB146 G0 H_6 r0 8 pu) (cwV 1 hts (jgV (jWr_21 _ (List.mem_of_getElem? (i := 13) rfl)) (jWr_21 _ (List.mem_of_getElem? (i := 14) rfl)) (jWr_21 _ (List.mem_of_getElem? (i := 15) rfl)) (jWr_1 _ (List.mem_of_getElem? (i := 22) rfl)) (jWr_21 _ (List.mem_of_getElem? (i := 16) rfl))) rfl rfl rfl (by decide +kernel) ⟨by rw [← hR]; exact Nat.le_of_ble_eq_true rfl, by rw [← hR]; exact Nat.le_of_ble_eq_true rfl⟩) ⟨fun a U g mk q => by obtain ⟨q0, q1, q2, qK, q10, q11, q12⟩ := q; exact ⟨q0, q1, q2, jG.calling g mk a qK, q10, q11, q12⟩, hh_6.recv (C := RX4) (T := TX4) (N := 12) hB6 rfl (by decide) hg_r0 hK, fun U hU hW => ⟨rfl, hU, hh_6.2.1, hG.step hW hU hh_6.1, hg_r0, (hh_6.2.2.1.sub (L1 := [(r0, 6, 8, .int pu)]) [3] rfl), by first | omega | (refine ⟨?_, ?_⟩ <;> (first | omega | rfl | assumption | decide | exact Or.inl rfl | exact Or.inr rfl | (simp only; omega)))⟩⟩ rfl rfl hl.1 rfl (lv_room (Nat.le_of_ble_eq_true rfl)) dX4_isEscape_110 ⟨Nat.zero_le _, Nat.zero_le _⟩) hh_6.1 (fun q _ h => h) (fun q h => h) (fun u_11 t_11 H_11 locs_11 ht_11 hvm_11 hr_12 hb_11 hz_11 hk_11 hS_11 => ?_)
    obtain ⟨qu_11, rfl⟩ : ∃ z, z = u_11 := ⟨_, rfl⟩
    rw [ht_11] at hb_11
    obtain ⟨hb_111, hb_112, hb_113, hb_114, hb_115⟩ := hb_11
    have hh_11 : jSt (dC, dI) B base G0 G0 EX4_isEscapeP s.heap 0 0 [(r0, 6, 8, .int qu_11), (r0, 6, 11, .int z_5), (r0, 6, 9, .ref rb), (r0, 6, 10, .int pe)] [] [] H_11 locs_11 := ((hh_6.call hb_111 hb_112 hb_113 hb_114 hS_11 rfl (L1 := [(r0, 6, 11, .int z_5), (r0, 6, 9, .ref rb), (r0, 6, 10, .int pe)]) [0, 1, 2] rfl rfl (M1 := []) [] rfl rfl (I1 := []) [] rfl rfl).more hb_115)
    clear hh_6 ht_11 hvm_11 hz_11 hk_11 hS_11 hb_111 hb_112 hb_113 hb_114 hb_115
    obtain ⟨hr_12_0, hr_12_1, hr_12_2⟩ := hr_12
    refine lv_iconst (v := 1) hx hb dX4_isEscape_113 (by decide) ?_
    rw [hQ]
    exact W.zret (v := 1) hx hb hr (jb_nz (Or.inr rfl)) (fun t ht hW => ⟨⟨1, (z_5, qu_11), rfl, ⟨(Or.inr rfl), by first | omega | (refine ⟨?_, ?_, ?_, ?_, ?_⟩ <;> (first | omega | rfl | assumption | decide | exact Or.inl rfl | exact Or.inr rfl | (simp only; omega)))⟩, hh_11.rt (M1 := [(r0, 6, 11, .int z_5), (r0, 6, 8, .int qu_11)]) [1, 0] rfl ht⟩, by rw [ht]; try exact hh_11.1.1, fun q h9 hq => by rw [ht]; try exact hh_11.1.2.1 q h9 hq⟩) hh_11.1.2.2 dX4_isEscape_114
  · refine lv_lookup (off := 89) (tgt := 115) hx hb dX4_isEscape_26 (by decide) (by rw [c_7]; rfl) (by decide) ?_
    refine lv_aload_n hx hb dX4_isEscape_115 rfl (lv_at hl 1 rfl) ?_
    refine lv_bipush (v := 12) hx hb dX4_isEscape_116 (by decide) ?_
    refine va_callv (A0 := jA base) (H0 := s.heap) (va_runV (As := [.int 12]) (rest := []) ⟨hx, hb, hml, hown, hts⟩ (uX4_addUnitP l dC dI ca base B hB hAp hB6 hB146 G0 H_6 r0 12 pu) (cwV 1 hts (jgV (jWr_21 _ (List.mem_of_getElem? (i := 13) rfl)) (jWr_21 _ (List.mem_of_getElem? (i := 14) rfl)) (jWr_21 _ (List.mem_of_getElem? (i := 15) rfl)) (jWr_1 _ (List.mem_of_getElem? (i := 22) rfl)) (jWr_21 _ (List.mem_of_getElem? (i := 16) rfl))) rfl rfl rfl (by decide +kernel) ⟨by rw [← hR]; exact Nat.le_of_ble_eq_true rfl, by rw [← hR]; exact Nat.le_of_ble_eq_true rfl⟩) ⟨fun a U g mk q => by obtain ⟨q0, q1, q2, qK, q10, q11, q12⟩ := q; exact ⟨q0, q1, q2, jG.calling g mk a qK, q10, q11, q12⟩, hh_6.recv (C := RX4) (T := TX4) (N := 12) hB6 rfl (by decide) hg_r0 hK, fun U hU hW => ⟨rfl, hU, hh_6.2.1, hG.step hW hU hh_6.1, hg_r0, (hh_6.2.2.1.sub (L1 := [(r0, 6, 8, .int pu)]) [3] rfl), by first | omega | (refine ⟨?_, ?_⟩ <;> (first | omega | rfl | assumption | decide | exact Or.inl rfl | exact Or.inr rfl | (simp only; omega)))⟩⟩ rfl rfl hl.1 rfl (lv_room (Nat.le_of_ble_eq_true rfl)) dX4_isEscape_118 ⟨Nat.zero_le _, Nat.zero_le _⟩) hh_6.1 (fun q _ h => h) (fun q h => h) (fun u_13 t_13 H_13 locs_13 ht_13 hvm_13 hr_14 hb_13 hz_13 hk_13 hS_13 => ?_)
    obtain ⟨qu_13, rfl⟩ : ∃ z, z = u_13 := ⟨_, rfl⟩
    rw [ht_13] at hb_13
    obtain ⟨hb_131, hb_132, hb_133, hb_134, hb_135⟩ := hb_13
    have hh_13 : jSt (dC, dI) B base G0 G0 EX4_isEscapeP s.heap 0 0 [(r0, 6, 8, .int qu_13), (r0, 6, 11, .int z_5), (r0, 6, 9, .ref rb), (r0, 6, 10, .int pe)] [] [] H_13 locs_13 := ((hh_6.call hb_131 hb_132 hb_133 hb_134 hS_13 rfl (L1 := [(r0, 6, 11, .int z_5), (r0, 6, 9, .ref rb), (r0, 6, 10, .int pe)]) [0, 1, 2] rfl rfl (M1 := []) [] rfl rfl (I1 := []) [] rfl rfl).more hb_135)
    clear hh_6 ht_13 hvm_13 hz_13 hk_13 hS_13 hb_131 hb_132 hb_133 hb_134 hb_135
    obtain ⟨hr_14_0, hr_14_1, hr_14_2⟩ := hr_14
    refine lv_iconst (v := 1) hx hb dX4_isEscape_121 (by decide) ?_
    rw [hQ]
    exact W.zret (v := 1) hx hb hr (jb_nz (Or.inr rfl)) (fun t ht hW => ⟨⟨1, (z_5, qu_13), rfl, ⟨(Or.inr rfl), by first | omega | (refine ⟨?_, ?_, ?_, ?_, ?_⟩ <;> (first | omega | rfl | assumption | decide | exact Or.inl rfl | exact Or.inr rfl | (simp only; omega)))⟩, hh_13.rt (M1 := [(r0, 6, 11, .int z_5), (r0, 6, 8, .int qu_13)]) [1, 0] rfl ht⟩, by rw [ht]; try exact hh_13.1.1, fun q h9 hq => by rw [ht]; try exact hh_13.1.2.1 q h9 hq⟩) hh_13.1.2.2 dX4_isEscape_122
  · refine lv_lookup (off := 97) (tgt := 123) hx hb dX4_isEscape_26 (by decide) (by rw [c_7]; rfl) (by decide) ?_
    refine lv_aload_n hx hb dX4_isEscape_123 rfl (lv_at hl 1 rfl) ?_
    refine lv_bipush (v := 10) hx hb dX4_isEscape_124 (by decide) ?_
    refine va_callv (A0 := jA base) (H0 := s.heap) (va_runV (As := [.int 10]) (rest := []) ⟨hx, hb, hml, hown, hts⟩ (uX4_addUnitP l dC dI ca base B hB hAp hB6 hB146 G0 H_6 r0 10 pu) (cwV 1 hts (jgV (jWr_21 _ (List.mem_of_getElem? (i := 13) rfl)) (jWr_21 _ (List.mem_of_getElem? (i := 14) rfl)) (jWr_21 _ (List.mem_of_getElem? (i := 15) rfl)) (jWr_1 _ (List.mem_of_getElem? (i := 22) rfl)) (jWr_21 _ (List.mem_of_getElem? (i := 16) rfl))) rfl rfl rfl (by decide +kernel) ⟨by rw [← hR]; exact Nat.le_of_ble_eq_true rfl, by rw [← hR]; exact Nat.le_of_ble_eq_true rfl⟩) ⟨fun a U g mk q => by obtain ⟨q0, q1, q2, qK, q10, q11, q12⟩ := q; exact ⟨q0, q1, q2, jG.calling g mk a qK, q10, q11, q12⟩, hh_6.recv (C := RX4) (T := TX4) (N := 12) hB6 rfl (by decide) hg_r0 hK, fun U hU hW => ⟨rfl, hU, hh_6.2.1, hG.step hW hU hh_6.1, hg_r0, (hh_6.2.2.1.sub (L1 := [(r0, 6, 8, .int pu)]) [3] rfl), by first | omega | (refine ⟨?_, ?_⟩ <;> (first | omega | rfl | assumption | decide | exact Or.inl rfl | exact Or.inr rfl | (simp only; omega)))⟩⟩ rfl rfl hl.1 rfl (lv_room (Nat.le_of_ble_eq_true rfl)) dX4_isEscape_126 ⟨Nat.zero_le _, Nat.zero_le _⟩) hh_6.1 (fun q _ h => h) (fun q h => h) (fun u_15 t_15 H_15 locs_15 ht_15 hvm_15 hr_16 hb_15 hz_15 hk_15 hS_15 => ?_)
    obtain ⟨qu_15, rfl⟩ : ∃ z, z = u_15 := ⟨_, rfl⟩
    rw [ht_15] at hb_15
    obtain ⟨hb_151, hb_152, hb_153, hb_154, hb_155⟩ := hb_15
    have hh_15 : jSt (dC, dI) B base G0 G0 EX4_isEscapeP s.heap 0 0 [(r0, 6, 8, .int qu_15), (r0, 6, 11, .int z_5), (r0, 6, 9, .ref rb), (r0, 6, 10, .int pe)] [] [] H_15 locs_15 := ((hh_6.call hb_151 hb_152 hb_153 hb_154 hS_15 rfl (L1 := [(r0, 6, 11, .int z_5), (r0, 6, 9, .ref rb), (r0, 6, 10, .int pe)]) [0, 1, 2] rfl rfl (M1 := []) [] rfl rfl (I1 := []) [] rfl rfl).more hb_155)
    clear hh_6 ht_15 hvm_15 hz_15 hk_15 hS_15 hb_151 hb_152 hb_153 hb_154 hb_155
    obtain ⟨hr_16_0, hr_16_1, hr_16_2⟩ := hr_16
    refine lv_iconst (v := 1) hx hb dX4_isEscape_129 (by decide) ?_
    rw [hQ]
    exact W.zret (v := 1) hx hb hr (jb_nz (Or.inr rfl)) (fun t ht hW => ⟨⟨1, (z_5, qu_15), rfl, ⟨(Or.inr rfl), by first | omega | (refine ⟨?_, ?_, ?_, ?_, ?_⟩ <;> (first | omega | rfl | assumption | decide | exact Or.inl rfl | exact Or.inr rfl | (simp only; omega)))⟩, hh_15.rt (M1 := [(r0, 6, 11, .int z_5), (r0, 6, 8, .int qu_15)]) [1, 0] rfl ht⟩, by rw [ht]; try exact hh_15.1.1, fun q h9 hq => by rw [ht]; try exact hh_15.1.2.1 q h9 hq⟩) hh_15.1.2.2 dX4_isEscape_130
  · refine lv_lookup (off := 105) (tgt := 131) hx hb dX4_isEscape_26 (by decide) (by rw [c_7]; rfl) (by decide) ?_
    refine lv_aload_n hx hb dX4_isEscape_131 rfl (lv_at hl 1 rfl) ?_
    refine lv_bipush (v := 13) hx hb dX4_isEscape_132 (by decide) ?_
    refine va_callv (A0 := jA base) (H0 := s.heap) (va_runV (As := [.int 13]) (rest := []) ⟨hx, hb, hml, hown, hts⟩ (uX4_addUnitP l dC dI ca base B hB hAp hB6 hB146 G0 H_6 r0 13 pu) (cwV 1 hts (jgV (jWr_21 _ (List.mem_of_getElem? (i := 13) rfl)) (jWr_21 _ (List.mem_of_getElem? (i := 14) rfl)) (jWr_21 _ (List.mem_of_getElem? (i := 15) rfl)) (jWr_1 _ (List.mem_of_getElem? (i := 22) rfl)) (jWr_21 _ (List.mem_of_getElem? (i := 16) rfl))) rfl rfl rfl (by decide +kernel) ⟨by rw [← hR]; exact Nat.le_of_ble_eq_true rfl, by rw [← hR]; exact Nat.le_of_ble_eq_true rfl⟩) ⟨fun a U g mk q => by obtain ⟨q0, q1, q2, qK, q10, q11, q12⟩ := q; exact ⟨q0, q1, q2, jG.calling g mk a qK, q10, q11, q12⟩, hh_6.recv (C := RX4) (T := TX4) (N := 12) hB6 rfl (by decide) hg_r0 hK, fun U hU hW => ⟨rfl, hU, hh_6.2.1, hG.step hW hU hh_6.1, hg_r0, (hh_6.2.2.1.sub (L1 := [(r0, 6, 8, .int pu)]) [3] rfl), by first | omega | (refine ⟨?_, ?_⟩ <;> (first | omega | rfl | assumption | decide | exact Or.inl rfl | exact Or.inr rfl | (simp only; omega)))⟩⟩ rfl rfl hl.1 rfl (lv_room (Nat.le_of_ble_eq_true rfl)) dX4_isEscape_134 ⟨Nat.zero_le _, Nat.zero_le _⟩) hh_6.1 (fun q _ h => h) (fun q h => h) (fun u_17 t_17 H_17 locs_17 ht_17 hvm_17 hr_18 hb_17 hz_17 hk_17 hS_17 => ?_)
    obtain ⟨qu_17, rfl⟩ : ∃ z, z = u_17 := ⟨_, rfl⟩
    rw [ht_17] at hb_17
    obtain ⟨hb_171, hb_172, hb_173, hb_174, hb_175⟩ := hb_17
    have hh_17 : jSt (dC, dI) B base G0 G0 EX4_isEscapeP s.heap 0 0 [(r0, 6, 8, .int qu_17), (r0, 6, 11, .int z_5), (r0, 6, 9, .ref rb), (r0, 6, 10, .int pe)] [] [] H_17 locs_17 := ((hh_6.call hb_171 hb_172 hb_173 hb_174 hS_17 rfl (L1 := [(r0, 6, 11, .int z_5), (r0, 6, 9, .ref rb), (r0, 6, 10, .int pe)]) [0, 1, 2] rfl rfl (M1 := []) [] rfl rfl (I1 := []) [] rfl rfl).more hb_175)
    clear hh_6 ht_17 hvm_17 hz_17 hk_17 hS_17 hb_171 hb_172 hb_173 hb_174 hb_175
    obtain ⟨hr_18_0, hr_18_1, hr_18_2⟩ := hr_18
    refine lv_iconst (v := 1) hx hb dX4_isEscape_137 (by decide) ?_
    rw [hQ]
    exact W.zret (v := 1) hx hb hr (jb_nz (Or.inr rfl)) (fun t ht hW => ⟨⟨1, (z_5, qu_17), rfl, ⟨(Or.inr rfl), by first | omega | (refine ⟨?_, ?_, ?_, ?_, ?_⟩ <;> (first | omega | rfl | assumption | decide | exact Or.inl rfl | exact Or.inr rfl | (simp only; omega)))⟩, hh_17.rt (M1 := [(r0, 6, 11, .int z_5), (r0, 6, 8, .int qu_17)]) [1, 0] rfl ht⟩, by rw [ht]; try exact hh_17.1.1, fun q h9 hq => by rw [ht]; try exact hh_17.1.2.1 q h9 hq⟩) hh_17.1.2.2 dX4_isEscape_138
  · refine lv_lookup (off := 113) (tgt := 139) hx hb dX4_isEscape_26 (by decide) (by rw [c_7]; rfl) (by decide) ?_
    refine lv_aload_n hx hb dX4_isEscape_139 rfl (lv_at hl 1 rfl) ?_
    refine lv_bipush (v := 9) hx hb dX4_isEscape_140 (by decide) ?_
    refine va_callv (A0 := jA base) (H0 := s.heap) (va_runV (As := [.int 9]) (rest := []) ⟨hx, hb, hml, hown, hts⟩ (uX4_addUnitP l dC dI ca base B hB hAp hB6 hB146 G0 H_6 r0 9 pu) (cwV 1 hts (jgV (jWr_21 _ (List.mem_of_getElem? (i := 13) rfl)) (jWr_21 _ (List.mem_of_getElem? (i := 14) rfl)) (jWr_21 _ (List.mem_of_getElem? (i := 15) rfl)) (jWr_1 _ (List.mem_of_getElem? (i := 22) rfl)) (jWr_21 _ (List.mem_of_getElem? (i := 16) rfl))) rfl rfl rfl (by decide +kernel) ⟨by rw [← hR]; exact Nat.le_of_ble_eq_true rfl, by rw [← hR]; exact Nat.le_of_ble_eq_true rfl⟩) ⟨fun a U g mk q => by obtain ⟨q0, q1, q2, qK, q10, q11, q12⟩ := q; exact ⟨q0, q1, q2, jG.calling g mk a qK, q10, q11, q12⟩, hh_6.recv (C := RX4) (T := TX4) (N := 12) hB6 rfl (by decide) hg_r0 hK, fun U hU hW => ⟨rfl, hU, hh_6.2.1, hG.step hW hU hh_6.1, hg_r0, (hh_6.2.2.1.sub (L1 := [(r0, 6, 8, .int pu)]) [3] rfl), by first | omega | (refine ⟨?_, ?_⟩ <;> (first | omega | rfl | assumption | decide | exact Or.inl rfl | exact Or.inr rfl | (simp only; omega)))⟩⟩ rfl rfl hl.1 rfl (lv_room (Nat.le_of_ble_eq_true rfl)) dX4_isEscape_142 ⟨Nat.zero_le _, Nat.zero_le _⟩) hh_6.1 (fun q _ h => h) (fun q h => h) (fun u_19 t_19 H_19 locs_19 ht_19 hvm_19 hr_20 hb_19 hz_19 hk_19 hS_19 => ?_)
    obtain ⟨qu_19, rfl⟩ : ∃ z, z = u_19 := ⟨_, rfl⟩
    rw [ht_19] at hb_19
    obtain ⟨hb_191, hb_192, hb_193, hb_194, hb_195⟩ := hb_19
    have hh_19 : jSt (dC, dI) B base G0 G0 EX4_isEscapeP s.heap 0 0 [(r0, 6, 8, .int qu_19), (r0, 6, 11, .int z_5), (r0, 6, 9, .ref rb), (r0, 6, 10, .int pe)] [] [] H_19 locs_19 := ((hh_6.call hb_191 hb_192 hb_193 hb_194 hS_19 rfl (L1 := [(r0, 6, 11, .int z_5), (r0, 6, 9, .ref rb), (r0, 6, 10, .int pe)]) [0, 1, 2] rfl rfl (M1 := []) [] rfl rfl (I1 := []) [] rfl rfl).more hb_195)
    clear hh_6 ht_19 hvm_19 hz_19 hk_19 hS_19 hb_191 hb_192 hb_193 hb_194 hb_195
    obtain ⟨hr_20_0, hr_20_1, hr_20_2⟩ := hr_20
    refine lv_iconst (v := 1) hx hb dX4_isEscape_145 (by decide) ?_
    rw [hQ]
    exact W.zret (v := 1) hx hb hr (jb_nz (Or.inr rfl)) (fun t ht hW => ⟨⟨1, (z_5, qu_19), rfl, ⟨(Or.inr rfl), by first | omega | (refine ⟨?_, ?_, ?_, ?_, ?_⟩ <;> (first | omega | rfl | assumption | decide | exact Or.inl rfl | exact Or.inr rfl | (simp only; omega)))⟩, hh_19.rt (M1 := [(r0, 6, 11, .int z_5), (r0, 6, 8, .int qu_19)]) [1, 0] rfl ht⟩, by rw [ht]; try exact hh_19.1.1, fun q h9 hq => by rw [ht]; try exact hh_19.1.2.1 q h9 hq⟩) hh_19.1.2.2 dX4_isEscape_146
set_option maxHeartbeats 4000000 in
set_option maxRecDepth 20000 in
theorem uX4_isUnitEscapeP (l : Launch) (dC : Nat → ClassId) (dI : Nat → Nat → Nat) (ca : Nat → ClassId) (base : Nat) (B : jF) (hB : jBok B) (hAp : jAp (dC, dI)) (hB6 : ∀ n G a H, B 6 n G a H ↔ jOb (dC, dI) 6 12 (F6 n G) a H) (hB100 : ∀ n G a H, B 100 n G a H ↔ jAr (dC, dI) (ca 0) (fun j z => True) n a H) (hB146 : ∀ n G a H, B 146 n G a H ↔ jAr (dC, dI) (ca 1) (fun j z => True) n a H) (G0 : jT) (H0 : Heap) (r0 : Nat) (rb : Nat) (n_rb : Nat) (pe : Int32) (pt : Int32) (pu : Int32) : Met l yX4_isUnitEscape (jw yX4_isUnitEscape cX4_isUnitEscape 3 (some .boolean)) ({ frames := 5, cells := 0, slots := 0, locals := 163 }) (va_Pc [.ref r0] (fun U => U.heap = H0 ∧ jX B base G0 [] H0 ∧ jG dC dI ca base U ∧ G0 r0 = some (6, 0) ∧ G0 rb = some (100, n_rb) ∧ jP (dC, dI) G0 H0 [(r0, 6, 9, .ref rb), (r0, 6, 10, .int pe), (r0, 6, 11, .int pt), (r0, 6, 8, .int pu)] ∧ 0 ≤ pe.toInt ∧ pe.toInt ≤ n_rb ∧ n_rb ≤ 3000 ∧ 0 ≤ pt.toInt ∧ pt.toInt ≤ 19000 ∧ pt.toInt ≤ pe.toInt ∧ 0 ≤ pu.toInt ∧ pu.toInt ≤ 3000)) (va_Qi (S := Int32 × Int32) (fun r u => (r = 0 ∨ r = 1) ∧ (pt.toInt ≤ u.1.toInt ∧ u.1.toInt ≤ pe.toInt ∧ pu.toInt ≤ u.2.toInt ∧ u.2.toInt ≤ 3000 ∧ (r.toInt = 0 ∨ u.2.toInt - pu.toInt ≤ u.1.toInt - pt.toInt))) (fun u t => jRt (dC, dI) B base G0 EX4_isUnitEscapeP H0 [(r0, 6, 11, .int u.1), (r0, 6, 8, .int u.2)] t.heap) (jA base)) 0 0 (jA base) := by
  refine Met.ofW (cc := cX4_isUnitEscape) (maxL := 3) (ret := (some .boolean)) (by decide) rfl ?_
  intro p e s m args below meth c s₁ Bd hml hv
  obtain ⟨rfl, hH0, hX, hG, hg_r0, hg_rb, hP0, hp0, hp1, hp2, hp3, hp4, hp5, hp6, hp7⟩ := hv
  have hK := hG.1
  have hx := Bd.exec
  have hb := Bd.bytes
  have hr := Bd.returns
  have hts := atoms_spec (ws := (jw yX4_isUnitEscape cX4_isUnitEscape 3 (some .boolean))) Bd.pre
  have htw : ∀ w ∈ jWl, w.before _ s = true := fun w h => hts w (List.mem_cons_of_mem _ h)
  have hown : s.vm.findClass RX4 = some m.cls := findClass_of_methodNamed Bd.named
  have hlocks := Bd.notSynchronized
  obtain ⟨Q, hQ⟩ : ∃ Q, Q = MQ below (va_Qi (S := Int32 × Int32) (fun r u => (r = 0 ∨ r = 1) ∧ (pt.toInt ≤ u.1.toInt ∧ u.1.toInt ≤ pe.toInt ∧ pu.toInt ≤ u.2.toInt ∧ u.2.toInt ≤ 3000 ∧ (r.toInt = 0 ∨ u.2.toInt - pu.toInt ≤ u.1.toInt - pt.toInt))) (fun u t => jRt (dC, dI) B base G0 EX4_isUnitEscapeP H0 [(r0, 6, 11, .int u.1), (r0, 6, 8, .int u.2)] t.heap) (jA base)) ([.ref r0] : List Value).toArray s 0 0 (jA base) := ⟨_, rfl⟩
  rw [← hQ]
  have hl := lv_entry ([.ref r0]) (n := 3) (Nat.le_of_ble_eq_true rfl)
  rw [lg_entry_eq]
  generalize (lg_sl ([.ref r0]) ++ List.replicate (3 - (lg_sl ([.ref r0])).length) Slot.unset).toArray = ls at hl ⊢
  have hl : lv_has ls 3 [(0, .ref r0)] := hl
  generalize hR : (headSpec (jw yX4_isUnitEscape cX4_isUnitEscape 3 (some .boolean)) ({ frames := 5, cells := 0, slots := 0, locals := 163 })).room = R
  subst hH0
  have hh : jSt (dC, dI) B base G0 G0 EX4_isUnitEscapeP s.heap 0 0 [(r0, 6, 9, .ref rb), (r0, 6, 10, .int pe), (r0, 6, 11, .int pt), (r0, 6, 8, .int pu)] [] [] s.heap [] := jSt.start hX hP0 jMc.nil jIs.nil
  clear hX hP0
  have hk0 : (0 : Int32).toInt = 0 := by decide
  have hk1 : (1 : Int32).toInt = 1 := by decide
  obtain ⟨str146, rstr146, hstr1460⟩ := hG.str (o := RX4) (k := 146) (tx := "\\u") (List.mem_of_getElem? (i := 667) (by decide +kernel))
  have hstr146 : jStr base str146 2 s s.heap := hstr1460
  refine lv_aload_n hx hb dX4_isUnitEscape_0 rfl (lv_at hl 0 rfl) ?_
  refine va_calli (A0 := jA base) (H0 := s.heap) (va_runV (As := []) (rest := []) ⟨hx, hb, hml, hown, hts⟩ (uX4_fourDigitsP l dC dI ca base B hB hAp hB6 hB100 G0 s.heap r0 rb n_rb pe pt) (cwV 0 hts (jgV (jWr_21 _ (List.mem_of_getElem? (i := 5) rfl)) (jWr_21 _ (List.mem_of_getElem? (i := 6) rfl)) (jWr_21 _ (List.mem_of_getElem? (i := 7) rfl)) (jWr_1 _ (List.mem_of_getElem? (i := 22) rfl)) (jWr_21 _ (List.mem_of_getElem? (i := 8) rfl))) rfl rfl rfl (by decide +kernel) ⟨by rw [← hR]; exact Nat.le_of_ble_eq_true rfl, by rw [← hR]; exact Nat.le_of_ble_eq_true rfl⟩) ⟨fun a U g mk q => by obtain ⟨q0, q1, q2, qK, q10, q11, q12, q13⟩ := q; exact ⟨q0, q1, q2, jG.calling g mk a qK, q10, q11, q12, q13⟩, hh.recv (C := RX4) (T := TX4) (N := 12) hB6 rfl (by decide) hg_r0 hK, fun U hU hW => ⟨rfl, hU, hh.2.1, hG.step hW hU hh.1, hg_r0, hg_rb, (hh.2.2.1.sub (L1 := [(r0, 6, 9, .ref rb), (r0, 6, 10, .int pe), (r0, 6, 11, .int pt)]) [0, 1, 2] rfl), by first | omega | (refine ⟨?_, ?_, ?_, ?_, ?_, ?_⟩ <;> (first | omega | rfl | assumption | decide | exact Or.inl rfl | exact Or.inr rfl | (simp only; omega)))⟩⟩ rfl rfl hl.1 rfl (lv_room (Nat.le_of_ble_eq_true rfl)) dX4_isUnitEscape_1 ⟨Nat.zero_le _, Nat.zero_le _⟩) hh.1 (fun q _ h => h) (fun q h => h) (fun r_2 u_1 t_1 H_1 locs_1 ht_1 hvm_1 hr_2 hb_1 hz_1 hk_1 hS_1 => ?_)
  obtain ⟨qt_1, rfl⟩ : ∃ z, z = u_1 := ⟨_, rfl⟩
  rw [ht_1] at hb_1
  obtain ⟨hb_11, hb_12, hb_13, hb_14, hb_15⟩ := hb_1
  have hh_1 : jSt (dC, dI) B base G0 G0 EX4_isUnitEscapeP s.heap 0 0 [(r0, 6, 11, .int qt_1), (r0, 6, 9, .ref rb), (r0, 6, 10, .int pe), (r0, 6, 8, .int pu)] [] [] H_1 locs_1 := ((hh.call hb_11 hb_12 hb_13 hb_14 hS_1 rfl (L1 := [(r0, 6, 9, .ref rb), (r0, 6, 10, .int pe), (r0, 6, 8, .int pu)]) [0, 1, 3] rfl rfl (M1 := []) [] rfl rfl (I1 := []) [] rfl rfl).more hb_15)
  clear hh ht_1 hvm_1 hz_1 hk_1 hS_1 hb_11 hb_12 hb_13 hb_14 hb_15
  obtain ⟨hr_2_0, hr_2_1, hr_2_2⟩ := hr_2
  refine lv_istore_n (lv' := [(1, .int r_2), (0, .ref r0)]) hx hb dX4_isUnitEscape_4 rfl hl (by decide) rfl (fun ls hl => ?_)
  refine lv_iload_n hx hb dX4_isUnitEscape_5 rfl (lv_at hl 0 rfl) ?_
  refine lv_if_lt (tgt := 16) hx hb dX4_isUnitEscape_6 (by decide) (fun c_3 => ?_) (fun c_3 => ?_)
  · skip
    have c_3' : r_2.toInt < 0 := jb_lt (rfl) ((by decide)) c_3
    first | (have hr_2_2q := hr_2_2.resolve_left (by omega); clear hr_2_2) | (have hr_2_2q := hr_2_2.resolve_right (by omega); clear hr_2_2) | skip
    refine lv_iconst (v := 0) hx hb dX4_isUnitEscape_16 (by decide) ?_
    rw [hQ]
    exact W.zret (v := 0) hx hb hr (jb_nz (Or.inl rfl)) (fun t ht hW => ⟨⟨0, (qt_1, pu), rfl, ⟨(Or.inl rfl), by first | omega | (refine ⟨?_, ?_, ?_, ?_, ?_⟩ <;> (first | omega | rfl | assumption | decide | exact Or.inl rfl | exact Or.inr rfl | (simp only; omega)))⟩, hh_1.rt (M1 := [(r0, 6, 11, .int qt_1), (r0, 6, 8, .int pu)]) [0, 3] rfl ht⟩, by rw [ht]; try exact hh_1.1.1, fun q h9 hq => by rw [ht]; try exact hh_1.1.2.1 q h9 hq⟩) hh_1.1.2.2 dX4_isUnitEscape_17
  · skip
    have c_3' : r_2.toInt ≥ 0 := jb_lt_n (rfl) ((by decide)) c_3
    first | (have hr_2_2q := hr_2_2.resolve_left (by omega); clear hr_2_2) | (have hr_2_2q := hr_2_2.resolve_right (by omega); clear hr_2_2) | skip
    refine lv_iload_n hx hb dX4_isUnitEscape_9 rfl (lv_at hl 0 rfl) ?_
    refine vp_callSi (W.runS (As := [.int r_2]) (rest := []) ⟨hx, hb, hml, hown, hts⟩ (wX0_isLow l dC dI ca base H_1 r_2) (va_cwS 1 hts (jgS (jWr_21 _ (List.mem_of_getElem? (i := 9) rfl)) (jWr_21 _ (List.mem_of_getElem? (i := 10) rfl)) (jWr_1 _ (List.mem_of_getElem? (i := 14) rfl)) (jWr_21 _ (List.mem_of_getElem? (i := 11) rfl))) rfl rfl rfl (by decide +kernel) ⟨by rw [← hR]; exact Nat.le_of_ble_eq_true rfl, by rw [← hR]; exact Nat.le_of_ble_eq_true rfl⟩) ⟨fun a U g mk q => by obtain ⟨q0, q1, qK, q9⟩ := q; exact ⟨q0, q1, jG.calling g mk a qK, q9⟩, fun U hU hW => ⟨rfl, hU, hG.step hW hU hh_1.1, by first | trivial | omega | (constructor <;> omega)⟩⟩ rfl rfl hl.1 rfl (lv_room (Nat.le_of_ble_eq_true rfl)) dX4_isUnitEscape_10 ⟨Nat.zero_le _, Nat.zero_le _⟩) (fun r_4 hr_4 => ?_)
    have hr_4' : r_4.toInt = 0 ∨ r_4.toInt = 1 := jb_01 hr_4
    refine lv_if_eq (tgt := 18) hx hb dX4_isUnitEscape_13 (by decide) (fun c_5 => ?_) (fun c_5 => ?_)
    · skip
      have c_5' : r_4.toInt = 0 := jb_eq (rfl) ((by decide)) c_5
      refine lv_aload_n hx hb dX4_isUnitEscape_18 rfl (lv_at hl 1 rfl) ?_
      refine lv_iload_n hx hb dX4_isUnitEscape_19 rfl (lv_at hl 0 rfl) ?_
      refine va_callv (A0 := jA base) (H0 := s.heap) (va_runV (As := [.int r_2]) (rest := []) ⟨hx, hb, hml, hown, hts⟩ (uX4_addUnitP l dC dI ca base B hB hAp hB6 hB146 G0 H_1 r0 r_2 pu) (cwV 1 hts (jgV (jWr_21 _ (List.mem_of_getElem? (i := 13) rfl)) (jWr_21 _ (List.mem_of_getElem? (i := 14) rfl)) (jWr_21 _ (List.mem_of_getElem? (i := 15) rfl)) (jWr_1 _ (List.mem_of_getElem? (i := 22) rfl)) (jWr_21 _ (List.mem_of_getElem? (i := 16) rfl))) rfl rfl rfl (by decide +kernel) ⟨by rw [← hR]; exact Nat.le_of_ble_eq_true rfl, by rw [← hR]; exact Nat.le_of_ble_eq_true rfl⟩) ⟨fun a U g mk q => by obtain ⟨q0, q1, q2, qK, q10, q11, q12⟩ := q; exact ⟨q0, q1, q2, jG.calling g mk a qK, q10, q11, q12⟩, hh_1.recv (C := RX4) (T := TX4) (N := 12) hB6 rfl (by decide) hg_r0 hK, fun U hU hW => ⟨rfl, hU, hh_1.2.1, hG.step hW hU hh_1.1, hg_r0, (hh_1.2.2.1.sub (L1 := [(r0, 6, 8, .int pu)]) [3] rfl), by first | omega | (refine ⟨?_, ?_⟩ <;> (first | omega | rfl | assumption | decide | exact Or.inl rfl | exact Or.inr rfl | (simp only; omega)))⟩⟩ rfl rfl hl.1 rfl (lv_room (Nat.le_of_ble_eq_true rfl)) dX4_isUnitEscape_20 ⟨Nat.zero_le _, Nat.zero_le _⟩) hh_1.1 (fun q _ h => h) (fun q h => h) (fun u_6 t_6 H_6 locs_6 ht_6 hvm_6 hr_7 hb_6 hz_6 hk_6 hS_6 => ?_)
      obtain ⟨qu_6, rfl⟩ : ∃ z, z = u_6 := ⟨_, rfl⟩
      rw [ht_6] at hb_6
      obtain ⟨hb_61, hb_62, hb_63, hb_64, hb_65⟩ := hb_6
      have hh_6 : jSt (dC, dI) B base G0 G0 EX4_isUnitEscapeP s.heap 0 0 [(r0, 6, 8, .int qu_6), (r0, 6, 11, .int qt_1), (r0, 6, 9, .ref rb), (r0, 6, 10, .int pe)] [] [] H_6 locs_6 := ((hh_1.call hb_61 hb_62 hb_63 hb_64 hS_6 rfl (L1 := [(r0, 6, 11, .int qt_1), (r0, 6, 9, .ref rb), (r0, 6, 10, .int pe)]) [0, 1, 2] rfl rfl (M1 := []) [] rfl rfl (I1 := []) [] rfl rfl).more hb_65)
      clear hh_1 ht_6 hvm_6 hz_6 hk_6 hS_6 hb_61 hb_62 hb_63 hb_64 hb_65
      obtain ⟨hr_7_0, hr_7_1, hr_7_2⟩ := hr_7
      refine lv_iload_n hx hb dX4_isUnitEscape_23 rfl (lv_at hl 0 rfl) ?_
      refine vp_callSi (W.runS (As := [.int r_2]) (rest := []) ⟨hx, hb, hml, hown, hts⟩ (wX0_isHigh l dC dI ca base H_6 r_2) (va_cwS 1 hts (jgS (jWr_21 _ (List.mem_of_getElem? (i := 17) rfl)) (jWr_21 _ (List.mem_of_getElem? (i := 18) rfl)) (jWr_1 _ (List.mem_of_getElem? (i := 14) rfl)) (jWr_21 _ (List.mem_of_getElem? (i := 19) rfl))) rfl rfl rfl (by decide +kernel) ⟨by rw [← hR]; exact Nat.le_of_ble_eq_true rfl, by rw [← hR]; exact Nat.le_of_ble_eq_true rfl⟩) ⟨fun a U g mk q => by obtain ⟨q0, q1, qK, q9⟩ := q; exact ⟨q0, q1, jG.calling g mk a qK, q9⟩, fun U hU hW => ⟨rfl, hU, hG.step hW hU hh_6.1, by first | trivial | omega | (constructor <;> omega)⟩⟩ rfl rfl hl.1 rfl (lv_room (Nat.le_of_ble_eq_true rfl)) dX4_isUnitEscape_24 ⟨Nat.zero_le _, Nat.zero_le _⟩) (fun r_8 hr_8 => ?_)
      have hr_8' : r_8.toInt = 0 ∨ r_8.toInt = 1 := jb_01 hr_8
      refine lv_if_ne (tgt := 32) hx hb dX4_isUnitEscape_27 (by decide) (fun c_9 => ?_) (fun c_9 => ?_)
      · skip
        have c_9' : r_8.toInt ≠ 0 := jb_ne (rfl) ((by decide)) c_9
        refine lv_aload_n hx hb dX4_isUnitEscape_32 rfl (lv_at hl 1 rfl) ?_
        refine va_ldcS hx hb hown rstr146 dX4_isUnitEscape_33 ?_
        refine va_calli (A0 := jA base) (H0 := s.heap) (va_runV (As := [.ref str146]) (rest := []) ⟨hx, hb, hml, hown, hts⟩ (uX4_isWord l dC dI ca base B hB hAp hB6 hB100 G0 H_6 r0 str146 2 rb n_rb pe qt_1) (cwV 1 hts (jgV (jWr_20 _ (List.mem_of_getElem? (i := 19) rfl)) (jWr_20 _ (List.mem_of_getElem? (i := 20) rfl)) (jWr_20 _ (List.mem_of_getElem? (i := 21) rfl)) (jWr_1 _ (List.mem_of_getElem? (i := 22) rfl)) (jWr_20 _ (List.mem_of_getElem? (i := 22) rfl))) rfl rfl rfl (by decide +kernel) ⟨by rw [← hR]; exact Nat.le_of_ble_eq_true rfl, by rw [← hR]; exact Nat.le_of_ble_eq_true rfl⟩) ⟨fun a U g mk q => by obtain ⟨q0, q1, q2, qK, q10, q11, q12, q13, q14⟩ := q; exact ⟨q0, q1, q2, jG.calling g mk a qK, (q10.moved (Vm.Alike.refl U.vm)), q11, q12, q13, q14⟩, hh_6.recv (C := RX4) (T := TX4) (N := 12) hB6 rfl (by decide) hg_r0 hK, fun U hU hW => ⟨rfl, hU, hh_6.2.1, hG.step hW hU hh_6.1, (hstr146.moved hW.alike).kept hh_6.1.2.1, hg_r0, hg_rb, (hh_6.2.2.1.sub (L1 := [(r0, 6, 9, .ref rb), (r0, 6, 10, .int pe), (r0, 6, 11, .int qt_1)]) [2, 3, 1] rfl), by first | omega | (refine ⟨?_, ?_, ?_, ?_, ?_, ?_, ?_, ?_⟩ <;> (first | omega | rfl | assumption | decide | exact Or.inl rfl | exact Or.inr rfl | (simp only; omega)))⟩⟩ rfl rfl hl.1 rfl (lv_room (Nat.le_of_ble_eq_true rfl)) dX4_isUnitEscape_35 ⟨Nat.zero_le _, Nat.zero_le _⟩) hh_6.1 (fun q _ h => h) (fun q h => h) (fun r_11 u_10 t_10 H_10 locs_10 ht_10 hvm_10 hr_11 hb_10 hz_10 hk_10 hS_10 => ?_)
        obtain ⟨qt_10, rfl⟩ : ∃ z, z = u_10 := ⟨_, rfl⟩
        rw [ht_10] at hb_10
        obtain ⟨hb_101, hb_102, hb_103, hb_104, hb_105⟩ := hb_10
        have hh_10 : jSt (dC, dI) B base G0 G0 EX4_isUnitEscapeP s.heap 0 0 [(r0, 6, 11, .int qt_10), (r0, 6, 8, .int qu_6), (r0, 6, 9, .ref rb), (r0, 6, 10, .int pe)] [] [] H_10 locs_10 := ((hh_6.call hb_101 hb_102 hb_103 hb_104 hS_10 rfl (L1 := [(r0, 6, 8, .int qu_6), (r0, 6, 9, .ref rb), (r0, 6, 10, .int pe)]) [0, 2, 3] rfl rfl (M1 := []) [] rfl rfl (I1 := []) [] rfl rfl).more hb_105)
        clear hh_6 ht_10 hvm_10 hz_10 hk_10 hS_10 hb_101 hb_102 hb_103 hb_104 hb_105
        obtain ⟨hr_11b, hr_11p⟩ := hr_11
        obtain ⟨hr_11p_0, hr_11p_1, hr_11p_2⟩ := hr_11p
        have hr_11' := jb_01 hr_11b
        refine lv_if_ne (tgt := 43) hx hb dX4_isUnitEscape_38 (by decide) (fun c_12 => ?_) (fun c_12 => ?_)
        · skip
          have c_12' : r_11.toInt ≠ 0 := jb_ne (rfl) ((by decide)) c_12
          refine lv_aload_n hx hb dX4_isUnitEscape_43 rfl (lv_at hl 1 rfl) ?_
          refine va_calli (A0 := jA base) (H0 := s.heap) (va_runV (As := []) (rest := []) ⟨hx, hb, hml, hown, hts⟩ (uX4_fourDigitsP l dC dI ca base B hB hAp hB6 hB100 G0 H_10 r0 rb n_rb pe qt_10) (cwV 0 hts (jgV (jWr_21 _ (List.mem_of_getElem? (i := 5) rfl)) (jWr_21 _ (List.mem_of_getElem? (i := 6) rfl)) (jWr_21 _ (List.mem_of_getElem? (i := 7) rfl)) (jWr_1 _ (List.mem_of_getElem? (i := 22) rfl)) (jWr_21 _ (List.mem_of_getElem? (i := 8) rfl))) rfl rfl rfl (by decide +kernel) ⟨by rw [← hR]; exact Nat.le_of_ble_eq_true rfl, by rw [← hR]; exact Nat.le_of_ble_eq_true rfl⟩) ⟨fun a U g mk q => by obtain ⟨q0, q1, q2, qK, q10, q11, q12, q13⟩ := q; exact ⟨q0, q1, q2, jG.calling g mk a qK, q10, q11, q12, q13⟩, hh_10.recv (C := RX4) (T := TX4) (N := 12) hB6 rfl (by decide) hg_r0 hK, fun U hU hW => ⟨rfl, hU, hh_10.2.1, hG.step hW hU hh_10.1, hg_r0, hg_rb, (hh_10.2.2.1.sub (L1 := [(r0, 6, 9, .ref rb), (r0, 6, 10, .int pe), (r0, 6, 11, .int qt_10)]) [2, 3, 0] rfl), by first | omega | (refine ⟨?_, ?_, ?_, ?_, ?_, ?_⟩ <;> (first | omega | rfl | assumption | decide | exact Or.inl rfl | exact Or.inr rfl | (simp only; omega)))⟩⟩ rfl rfl hl.1 rfl (lv_room (Nat.le_of_ble_eq_true rfl)) dX4_isUnitEscape_44 ⟨Nat.zero_le _, Nat.zero_le _⟩) hh_10.1 (fun q _ h => h) (fun q h => h) (fun r_14 u_13 t_13 H_13 locs_13 ht_13 hvm_13 hr_14 hb_13 hz_13 hk_13 hS_13 => ?_)
          obtain ⟨qt_13, rfl⟩ : ∃ z, z = u_13 := ⟨_, rfl⟩
          rw [ht_13] at hb_13
          obtain ⟨hb_131, hb_132, hb_133, hb_134, hb_135⟩ := hb_13
          have hh_13 : jSt (dC, dI) B base G0 G0 EX4_isUnitEscapeP s.heap 0 0 [(r0, 6, 11, .int qt_13), (r0, 6, 8, .int qu_6), (r0, 6, 9, .ref rb), (r0, 6, 10, .int pe)] [] [] H_13 locs_13 := ((hh_10.call hb_131 hb_132 hb_133 hb_134 hS_13 rfl (L1 := [(r0, 6, 8, .int qu_6), (r0, 6, 9, .ref rb), (r0, 6, 10, .int pe)]) [1, 2, 3] rfl rfl (M1 := []) [] rfl rfl (I1 := []) [] rfl rfl).more hb_135)
          clear hh_10 ht_13 hvm_13 hz_13 hk_13 hS_13 hb_131 hb_132 hb_133 hb_134 hb_135
          obtain ⟨hr_14_0, hr_14_1, hr_14_2⟩ := hr_14
          refine lv_istore_n (lv' := [(2, .int r_14), (1, .int r_2), (0, .ref r0)]) hx hb dX4_isUnitEscape_47 rfl hl (by decide) rfl (fun ls hl => ?_)
          refine lv_aload_n hx hb dX4_isUnitEscape_48 rfl (lv_at hl 2 rfl) ?_
          refine lv_iload_n hx hb dX4_isUnitEscape_49 rfl (lv_at hl 0 rfl) ?_
          refine va_callv (A0 := jA base) (H0 := s.heap) (va_runV (As := [.int r_14]) (rest := []) ⟨hx, hb, hml, hown, hts⟩ (uX4_addUnitP l dC dI ca base B hB hAp hB6 hB146 G0 H_13 r0 r_14 qu_6) (cwV 1 hts (jgV (jWr_21 _ (List.mem_of_getElem? (i := 13) rfl)) (jWr_21 _ (List.mem_of_getElem? (i := 14) rfl)) (jWr_21 _ (List.mem_of_getElem? (i := 15) rfl)) (jWr_1 _ (List.mem_of_getElem? (i := 22) rfl)) (jWr_21 _ (List.mem_of_getElem? (i := 16) rfl))) rfl rfl rfl (by decide +kernel) ⟨by rw [← hR]; exact Nat.le_of_ble_eq_true rfl, by rw [← hR]; exact Nat.le_of_ble_eq_true rfl⟩) ⟨fun a U g mk q => by obtain ⟨q0, q1, q2, qK, q10, q11, q12⟩ := q; exact ⟨q0, q1, q2, jG.calling g mk a qK, q10, q11, q12⟩, hh_13.recv (C := RX4) (T := TX4) (N := 12) hB6 rfl (by decide) hg_r0 hK, fun U hU hW => ⟨rfl, hU, hh_13.2.1, hG.step hW hU hh_13.1, hg_r0, (hh_13.2.2.1.sub (L1 := [(r0, 6, 8, .int qu_6)]) [1] rfl), by first | omega | (refine ⟨?_, ?_⟩ <;> (first | omega | rfl | assumption | decide | exact Or.inl rfl | exact Or.inr rfl | (simp only; omega)))⟩⟩ rfl rfl hl.1 rfl (lv_room (Nat.le_of_ble_eq_true rfl)) dX4_isUnitEscape_50 ⟨Nat.zero_le _, Nat.zero_le _⟩) hh_13.1 (fun q _ h => h) (fun q h => h) (fun u_15 t_15 H_15 locs_15 ht_15 hvm_15 hr_16 hb_15 hz_15 hk_15 hS_15 => ?_)
          obtain ⟨qu_15, rfl⟩ : ∃ z, z = u_15 := ⟨_, rfl⟩
          rw [ht_15] at hb_15
          obtain ⟨hb_151, hb_152, hb_153, hb_154, hb_155⟩ := hb_15
          have hh_15 : jSt (dC, dI) B base G0 G0 EX4_isUnitEscapeP s.heap 0 0 [(r0, 6, 8, .int qu_15), (r0, 6, 11, .int qt_13), (r0, 6, 9, .ref rb), (r0, 6, 10, .int pe)] [] [] H_15 locs_15 := ((hh_13.call hb_151 hb_152 hb_153 hb_154 hS_15 rfl (L1 := [(r0, 6, 11, .int qt_13), (r0, 6, 9, .ref rb), (r0, 6, 10, .int pe)]) [0, 2, 3] rfl rfl (M1 := []) [] rfl rfl (I1 := []) [] rfl rfl).more hb_155)
          clear hh_13 ht_15 hvm_15 hz_15 hk_15 hS_15 hb_151 hb_152 hb_153 hb_154 hb_155
          obtain ⟨hr_16_0, hr_16_1, hr_16_2⟩ := hr_16
          refine lv_iload_n hx hb dX4_isUnitEscape_53 rfl (lv_at hl 0 rfl) ?_
          refine vp_callSi (W.runS (As := [.int r_14]) (rest := []) ⟨hx, hb, hml, hown, hts⟩ (wX0_isLow l dC dI ca base H_15 r_14) (va_cwS 1 hts (jgS (jWr_21 _ (List.mem_of_getElem? (i := 9) rfl)) (jWr_21 _ (List.mem_of_getElem? (i := 10) rfl)) (jWr_1 _ (List.mem_of_getElem? (i := 14) rfl)) (jWr_21 _ (List.mem_of_getElem? (i := 11) rfl))) rfl rfl rfl (by decide +kernel) ⟨by rw [← hR]; exact Nat.le_of_ble_eq_true rfl, by rw [← hR]; exact Nat.le_of_ble_eq_true rfl⟩) ⟨fun a U g mk q => by obtain ⟨q0, q1, qK, q9⟩ := q; exact ⟨q0, q1, jG.calling g mk a qK, q9⟩, fun U hU hW => ⟨rfl, hU, hG.step hW hU hh_15.1, by first | trivial | omega | (constructor <;> omega)⟩⟩ rfl rfl hl.1 rfl (lv_room (Nat.le_of_ble_eq_true rfl)) dX4_isUnitEscape_54 ⟨Nat.zero_le _, Nat.zero_le _⟩) (fun r_17 hr_17 => ?_)
          have hr_17' : r_17.toInt = 0 ∨ r_17.toInt = 1 := jb_01 hr_17
          rw [hQ]
          exact W.zret (v := r_17) hx hb hr (jb_nz (hr_17)) (fun t ht hW => ⟨⟨r_17, (qt_13, qu_15), rfl, ⟨(hr_17), by first | omega | (refine ⟨?_, ?_, ?_, ?_, ?_⟩ <;> (first | omega | rfl | assumption | decide | exact Or.inl rfl | exact Or.inr rfl | (simp only; omega)))⟩, hh_15.rt (M1 := [(r0, 6, 11, .int qt_13), (r0, 6, 8, .int qu_15)]) [1, 0] rfl ht⟩, by rw [ht]; try exact hh_15.1.1, fun q h9 hq => by rw [ht]; try exact hh_15.1.2.1 q h9 hq⟩) hh_15.1.2.2 dX4_isUnitEscape_57
        · skip
          have c_12' : r_11.toInt = 0 := jb_ne_n (rfl) ((by decide)) c_12
          refine lv_iconst (v := 0) hx hb dX4_isUnitEscape_41 (by decide) ?_
          rw [hQ]
          exact W.zret (v := 0) hx hb hr (jb_nz (Or.inl rfl)) (fun t ht hW => ⟨⟨0, (qt_10, qu_6), rfl, ⟨(Or.inl rfl), by first | omega | (refine ⟨?_, ?_, ?_, ?_, ?_⟩ <;> (first | omega | rfl | assumption | decide | exact Or.inl rfl | exact Or.inr rfl | (simp only; omega)))⟩, hh_10.rt (M1 := [(r0, 6, 11, .int qt_10), (r0, 6, 8, .int qu_6)]) [0, 1] rfl ht⟩, by rw [ht]; try exact hh_10.1.1, fun q h9 hq => by rw [ht]; try exact hh_10.1.2.1 q h9 hq⟩) hh_10.1.2.2 dX4_isUnitEscape_42
      · skip
        have c_9' : r_8.toInt = 0 := jb_ne_n (rfl) ((by decide)) c_9
        refine lv_iconst (v := 1) hx hb dX4_isUnitEscape_30 (by decide) ?_
        rw [hQ]
        exact W.zret (v := 1) hx hb hr (jb_nz (Or.inr rfl)) (fun t ht hW => ⟨⟨1, (qt_1, qu_6), rfl, ⟨(Or.inr rfl), by first | omega | (refine ⟨?_, ?_, ?_, ?_, ?_⟩ <;> (first | omega | rfl | assumption | decide | exact Or.inl rfl | exact Or.inr rfl | (simp only; omega)))⟩, hh_6.rt (M1 := [(r0, 6, 11, .int qt_1), (r0, 6, 8, .int qu_6)]) [1, 0] rfl ht⟩, by rw [ht]; try exact hh_6.1.1, fun q h9 hq => by rw [ht]; try exact hh_6.1.2.1 q h9 hq⟩) hh_6.1.2.2 dX4_isUnitEscape_31
    · skip
      have c_5' : r_4.toInt ≠ 0 := jb_eq_n (rfl) ((by decide)) c_5
      refine lv_iconst (v := 0) hx hb dX4_isUnitEscape_16 (by decide) ?_
      rw [hQ]
      exact W.zret (v := 0) hx hb hr (jb_nz (Or.inl rfl)) (fun t ht hW => ⟨⟨0, (qt_1, pu), rfl, ⟨(Or.inl rfl), by first | omega | (refine ⟨?_, ?_, ?_, ?_, ?_⟩ <;> (first | omega | rfl | assumption | decide | exact Or.inl rfl | exact Or.inr rfl | (simp only; omega)))⟩, hh_1.rt (M1 := [(r0, 6, 11, .int qt_1), (r0, 6, 8, .int pu)]) [0, 3] rfl ht⟩, by rw [ht]; try exact hh_1.1.1, fun q h9 hq => by rw [ht]; try exact hh_1.1.2.1 q h9 hq⟩) hh_1.1.2.2 dX4_isUnitEscape_17
set_option maxHeartbeats 4000000 in
set_option maxRecDepth 20000 in
theorem uX4_isStringP (l : Launch) (dC : Nat → ClassId) (dI : Nat → Nat → Nat) (ca : Nat → ClassId) (base : Nat) (B : jF) (hB : jBok B) (hAp : jAp (dC, dI)) (hB6 : ∀ n G a H, B 6 n G a H ↔ jOb (dC, dI) 6 12 (F6 n G) a H) (hB100 : ∀ n G a H, B 100 n G a H ↔ jAr (dC, dI) (ca 0) (fun j z => True) n a H) (hB146 : ∀ n G a H, B 146 n G a H ↔ jAr (dC, dI) (ca 1) (fun j z => True) n a H) (G0 : jT) (H0 : Heap) (r0 : Nat) (rb : Nat) (n_rb : Nat) (pe : Int32) (pt : Int32) (pu : Int32) : Met l yX4_isString (jw yX4_isString cX4_isString 4 (some .boolean)) ({ frames := 6, cells := 0, slots := 0, locals := 185 }) (va_Pc [.ref r0] (fun U => U.heap = H0 ∧ jX B base G0 [] H0 ∧ jG dC dI ca base U ∧ G0 r0 = some (6, 0) ∧ G0 rb = some (100, n_rb) ∧ jP (dC, dI) G0 H0 [(r0, 6, 9, .ref rb), (r0, 6, 10, .int pe), (r0, 6, 11, .int pt), (r0, 6, 8, .int pu)] ∧ 0 ≤ pe.toInt ∧ pe.toInt ≤ n_rb ∧ n_rb ≤ 3000 ∧ 0 ≤ pt.toInt ∧ pt.toInt ≤ 19000 ∧ pt.toInt ≤ pe.toInt ∧ 0 ≤ pu.toInt ∧ pu.toInt ≤ 3000)) (va_Qi (S := Int32 × Int32) (fun r u => (r = 0 ∨ r = 1) ∧ (pt.toInt ≤ u.1.toInt ∧ u.1.toInt ≤ pe.toInt + 3 * (1 - r.toInt) ∧ pu.toInt ≤ u.2.toInt ∧ u.2.toInt ≤ 3000 ∧ (r.toInt = 0 ∨ u.2.toInt - pu.toInt + 2 ≤ u.1.toInt - pt.toInt))) (fun u t => jRt (dC, dI) B base G0 EX4_isStringP H0 [(r0, 6, 11, .int u.1), (r0, 6, 8, .int u.2)] t.heap) (jA base)) 0 0 (jA base) := by
  refine Met.ofW (cc := cX4_isString) (maxL := 4) (ret := (some .boolean)) (by decide) rfl ?_
  intro p e s m args below meth c s₁ Bd hml hv
  obtain ⟨rfl, hH0, hX, hG, hg_r0, hg_rb, hP0, hp0, hp1, hp2, hp3, hp4, hp5, hp6, hp7⟩ := hv
  have hK := hG.1
  have hx := Bd.exec
  have hb := Bd.bytes
  have hr := Bd.returns
  have hts := atoms_spec (ws := (jw yX4_isString cX4_isString 4 (some .boolean))) Bd.pre
  have htw : ∀ w ∈ jWl, w.before _ s = true := fun w h => hts w (List.mem_cons_of_mem _ h)
  have hown : s.vm.findClass RX4 = some m.cls := findClass_of_methodNamed Bd.named
  have hlocks := Bd.notSynchronized
  obtain ⟨Q, hQ⟩ : ∃ Q, Q = MQ below (va_Qi (S := Int32 × Int32) (fun r u => (r = 0 ∨ r = 1) ∧ (pt.toInt ≤ u.1.toInt ∧ u.1.toInt ≤ pe.toInt + 3 * (1 - r.toInt) ∧ pu.toInt ≤ u.2.toInt ∧ u.2.toInt ≤ 3000 ∧ (r.toInt = 0 ∨ u.2.toInt - pu.toInt + 2 ≤ u.1.toInt - pt.toInt))) (fun u t => jRt (dC, dI) B base G0 EX4_isStringP H0 [(r0, 6, 11, .int u.1), (r0, 6, 8, .int u.2)] t.heap) (jA base)) ([.ref r0] : List Value).toArray s 0 0 (jA base) := ⟨_, rfl⟩
  rw [← hQ]
  have hl := lv_entry ([.ref r0]) (n := 4) (Nat.le_of_ble_eq_true rfl)
  rw [lg_entry_eq]
  generalize (lg_sl ([.ref r0]) ++ List.replicate (4 - (lg_sl ([.ref r0])).length) Slot.unset).toArray = ls at hl ⊢
  have hl : lv_has ls 4 [(0, .ref r0)] := hl
  generalize hR : (headSpec (jw yX4_isString cX4_isString 4 (some .boolean)) ({ frames := 6, cells := 0, slots := 0, locals := 185 })).room = R
  subst hH0
  have hh : jSt (dC, dI) B base G0 G0 EX4_isStringP s.heap 0 0 [(r0, 6, 9, .ref rb), (r0, 6, 10, .int pe), (r0, 6, 11, .int pt), (r0, 6, 8, .int pu)] [] [] s.heap [] := jSt.start hX hP0 jMc.nil jIs.nil
  clear hX hP0
  have hk0 : (0 : Int32).toInt = 0 := by decide
  have hk1 : (1 : Int32).toInt = 1 := by decide
  have hk32 : (32 : Int32).toInt = 32 := by decide
  have hk34 : (34 : Int32).toInt = 34 := by decide
  have hk92 : (92 : Int32).toInt = 92 := by decide
  have hly_6_9 := htw (u_lay RX4 TX4 9) (jWc_wsX40 _ (u_in_lay (by decide)))
  have hly_6_10 := htw (u_lay RX4 TX4 10) (jWc_wsX40 _ (u_in_lay (by decide)))
  have hly_6_11 := htw (u_lay RX4 TX4 11) (jWc_wsX40 _ (u_in_lay (by decide)))
  have hlk_47 := (htw (.fieldLink RX4 47 "ProofServer$Json" "at" "I") (jWr_19 _ (List.mem_of_getElem? (i := 12) rfl)))
  have hlk_43 := (htw (.fieldLink RX4 43 "ProofServer$Json" "end" "I") (jWr_19 _ (List.mem_of_getElem? (i := 11) rfl)))
  have hlk_33 := (htw (.fieldLink RX4 33 "ProofServer$Json" "bytes" "[B") (jWr_4 _ (List.mem_of_getElem? (i := 4) rfl)))
  obtain ⟨str146, rstr146, hstr1460⟩ := hG.str (o := RX4) (k := 146) (tx := "\\u") (List.mem_of_getElem? (i := 667) (by decide +kernel))
  have hstr146 : jStr base str146 2 s s.heap := hstr1460
  refine lv_aload_n hx hb dX4_isString_0 rfl (lv_at hl 0 rfl) ?_
  refine va_calli (A0 := jA base) (H0 := s.heap) (va_runV (As := []) (rest := []) ⟨hx, hb, hml, hown, hts⟩ (uX4_peek l dC dI ca base B hB hAp hB6 hB100 G0 s.heap r0 rb n_rb pe pt) (cwV 0 hts (jgV (jWr_19 _ (List.mem_of_getElem? (i := 19) rfl)) (jWr_19 _ (List.mem_of_getElem? (i := 20) rfl)) (jWr_19 _ (List.mem_of_getElem? (i := 21) rfl)) (jWr_1 _ (List.mem_of_getElem? (i := 22) rfl)) (jWr_19 _ (List.mem_of_getElem? (i := 22) rfl))) rfl rfl rfl (by decide +kernel) ⟨by rw [← hR]; exact Nat.le_of_ble_eq_true rfl, by rw [← hR]; exact Nat.le_of_ble_eq_true rfl⟩) ⟨fun a U g mk q => by obtain ⟨q0, q1, q2, qK, q10, q11, q12, q13⟩ := q; exact ⟨q0, q1, q2, jG.calling g mk a qK, q10, q11, q12, q13⟩, hh.recv (C := RX4) (T := TX4) (N := 12) hB6 rfl (by decide) hg_r0 hK, fun U hU hW => ⟨rfl, hU, hh.2.1, hG.step hW hU hh.1, hg_r0, hg_rb, (hh.2.2.1.sub (L1 := [(r0, 6, 9, .ref rb), (r0, 6, 10, .int pe), (r0, 6, 11, .int pt)]) [0, 1, 2] rfl), by first | omega | (refine ⟨?_, ?_, ?_, ?_, ?_⟩ <;> (first | omega | rfl | assumption | decide | exact Or.inl rfl | exact Or.inr rfl | (simp only; omega)))⟩⟩ rfl rfl hl.1 rfl (lv_room (Nat.le_of_ble_eq_true rfl)) dX4_isString_1 ⟨Nat.zero_le _, Nat.zero_le _⟩) hh.1 (fun q _ h => h) (fun q h => h) (fun r_2 u_1 t_1 H_1 locs_1 ht_1 hvm_1 hr_2 hb_1 hz_1 hk_1 hS_1 => ?_)
  rw [ht_1] at hb_1
  obtain ⟨hb_11, hb_12, hb_13, hb_14, hb_15⟩ := hb_1
  have hh_1 : jSt (dC, dI) B base G0 G0 EX4_isStringP s.heap 0 0 [(r0, 6, 9, .ref rb), (r0, 6, 10, .int pe), (r0, 6, 11, .int pt), (r0, 6, 8, .int pu)] [] [] H_1 locs_1 := ((hh.call hb_11 hb_12 hb_13 hb_14 hS_1 rfl (L1 := [(r0, 6, 9, .ref rb), (r0, 6, 10, .int pe), (r0, 6, 11, .int pt), (r0, 6, 8, .int pu)]) [0, 1, 2, 3] rfl rfl (M1 := []) [] rfl rfl (I1 := []) [] rfl rfl).more hb_15)
  clear hh ht_1 hvm_1 hz_1 hk_1 hS_1 hb_11 hb_12 hb_13 hb_14 hb_15
  obtain ⟨hr_2_0, hr_2_1, hr_2_2⟩ := hr_2
  refine lv_bipush (v := 34) hx hb dX4_isString_4 (by decide) ?_
  refine lv_icmp_eq (tgt := 11) hx hb dX4_isString_6 (by decide) (fun c_3 => ?_) (fun c_3 => ?_)
  · skip
    have c_3' : r_2.toInt = 34 := jb_eq (rfl) ((by decide)) c_3
    first | (have hr_2_2q := hr_2_2.resolve_left (by omega); clear hr_2_2) | (have hr_2_2q := hr_2_2.resolve_right (by omega); clear hr_2_2) | try clear hr_2_2
    refine lv_aload_n hx hb dX4_isString_11 rfl (lv_at hl 0 rfl) ?_
    refine lv_dup hx hb dX4_isString_12 rfl ?_
    refine j7_read hx hb hown hK (C := RX4) (T := TX4) (N := 12) rfl hly_6_11 hlk_47 (hh_1.at 2 rfl) dX4_isString_13 ?_
    refine lv_iconst (v := 1) hx hb dX4_isString_16 (by decide) ?_
    refine lv_iadd hx hb dX4_isString_17 ?_
    refine lv_topi (fun z_4 ez_4 => ?_)
    have hz_4 : z_4.toInt = pt.toInt + 1 := by rw [ez_4]; exact jb_iadd2 (rfl) ((by decide)) (by omega)
    refine j7_put hx hb hown hK hh_1 hB hAp hB6 (C := RX4) (T := TX4) (N := 12) rfl (by decide) hg_r0 (i := 11) (by decide) hly_6_11 rfl hlk_47 rfl (ty := .int) (v := .int z_4) (by decide +kernel) rfl rfl (⟨_, rfl, by omega, by omega⟩) rfl (L1 := [(r0, 6, 9, .ref rb), (r0, 6, 10, .int pe), (r0, 6, 8, .int pu)]) [0, 1, 3] rfl rfl rfl dX4_isString_18 (fun H_5 locs_5 hh_5 => ?_)
    clear hh_1
    refine lv_iconst (v := 0) hx hb dX4_isString_21 (by decide) ?_
    refine lv_istore_n (lv' := [(1, .int 0), (0, .ref r0)]) hx hb dX4_isString_22 rfl hl (by decide) rfl (fun ls hl => ?_)
    have L23 : ∀ (N : Nat) (v1_6 : Int32) (wt_6 : Int32) (wu_6 : Int32) (H_6 : Heap) (locs_6 : List Loc), jSt (dC, dI) B base G0 G0 EX4_isStringP s.heap 0 0 [(r0, 6, 11, .int wt_6), (r0, 6, 8, .int wu_6), (r0, 6, 9, .ref rb), (r0, 6, 10, .int pe)] [] [] H_6 locs_6 → (0 ≤ v1_6.toInt ∧ pt.toInt ≤ wt_6.toInt ∧ wt_6.toInt ≤ pe.toInt + 3 ∧ pu.toInt ≤ wu_6.toInt ∧ wu_6.toInt ≤ 3000 ∧ wu_6.toInt - pu.toInt + 1 ≤ wt_6.toInt - pt.toInt) → (((pe.toInt - v1_6.toInt).toNat : Int) : Int) < N → ∀ ls : Array Slot, lv_has ls 4 [(0, .ref r0), (1, .int v1_6)] → W p l e R s m ([.ref r0] : List Value).toArray below meth c H_6 locs_6 0 0 Q (F0 m 23 ls []) := by
      intro N
      induction N with
      | zero => intro v1_6 wt_6 wu_6 H_6 locs_6 hh_6  hi_6 hm; exact absurd hm (by omega)
      | succ N L23 =>
        intro v1_6 wt_6 wu_6 H_6 locs_6 hh_6  hi_6 hm_6 ls hl
        obtain ⟨hi_6_0, hi_6_1, hi_6_2, hi_6_3, hi_6_4, hi_6_5⟩ := hi_6
        refine lv_iload_n hx hb dX4_isString_23 rfl (lv_at hl 1 rfl) ?_
        refine lv_aload_n hx hb dX4_isString_24 rfl (lv_at hl 0 rfl) ?_
        refine j7_read hx hb hown hK (C := RX4) (T := TX4) (N := 12) rfl hly_6_10 hlk_43 (hh_6.at 3 rfl) dX4_isString_25 ?_
        refine lv_icmp_ge (tgt := 144) hx hb dX4_isString_28 (by decide) (fun c_7 => ?_) (fun c_7 => ?_)
        · skip
          have c_7' : v1_6.toInt ≥ pe.toInt := jb_ge (rfl) (rfl) c_7
          refine lv_iconst (v := 0) hx hb dX4_isString_144 (by decide) ?_
          rw [hQ]
          exact W.zret (v := 0) hx hb hr (jb_nz (Or.inl rfl)) (fun t ht hW => ⟨⟨0, (wt_6, wu_6), rfl, ⟨(Or.inl rfl), by first | omega | (refine ⟨?_, ?_, ?_, ?_, ?_⟩ <;> (first | omega | rfl | assumption | decide | exact Or.inl rfl | exact Or.inr rfl | (simp only; omega)))⟩, hh_6.rt (M1 := [(r0, 6, 11, .int wt_6), (r0, 6, 8, .int wu_6)]) [0, 1] rfl ht⟩, by rw [ht]; try exact hh_6.1.1, fun q h9 hq => by rw [ht]; try exact hh_6.1.2.1 q h9 hq⟩) hh_6.1.2.2 dX4_isString_145
        · skip
          have c_7' : v1_6.toInt < pe.toInt := jb_ge_n (rfl) (rfl) c_7
          refine lv_aload_n hx hb dX4_isString_31 rfl (lv_at hl 0 rfl) ?_
          refine j7_read hx hb hown hK (C := RX4) (T := TX4) (N := 12) rfl hly_6_11 hlk_47 (hh_6.at 0 rfl) dX4_isString_32 ?_
          refine lv_aload_n hx hb dX4_isString_35 rfl (lv_at hl 0 rfl) ?_
          refine j7_read hx hb hown hK (C := RX4) (T := TX4) (N := 12) rfl hly_6_10 hlk_43 (hh_6.at 3 rfl) dX4_isString_36 ?_
          refine lv_icmp_ge (tgt := 144) hx hb dX4_isString_39 (by decide) (fun c_8 => ?_) (fun c_8 => ?_)
          · skip
            have c_8' : wt_6.toInt ≥ pe.toInt := jb_ge (rfl) (rfl) c_8
            refine lv_iconst (v := 0) hx hb dX4_isString_144 (by decide) ?_
            rw [hQ]
            exact W.zret (v := 0) hx hb hr (jb_nz (Or.inl rfl)) (fun t ht hW => ⟨⟨0, (wt_6, wu_6), rfl, ⟨(Or.inl rfl), by first | omega | (refine ⟨?_, ?_, ?_, ?_, ?_⟩ <;> (first | omega | rfl | assumption | decide | exact Or.inl rfl | exact Or.inr rfl | (simp only; omega)))⟩, hh_6.rt (M1 := [(r0, 6, 11, .int wt_6), (r0, 6, 8, .int wu_6)]) [0, 1] rfl ht⟩, by rw [ht]; try exact hh_6.1.1, fun q h9 hq => by rw [ht]; try exact hh_6.1.2.1 q h9 hq⟩) hh_6.1.2.2 dX4_isString_145
          · skip
            have c_8' : wt_6.toInt < pe.toInt := jb_ge_n (rfl) (rfl) c_8
            refine lv_aload_n hx hb dX4_isString_42 rfl (lv_at hl 0 rfl) ?_
            refine j7_read hx hb hown hK (C := RX4) (T := TX4) (N := 12) rfl hly_6_9 hlk_33 (hh_6.at 2 rfl) dX4_isString_43 ?_
            refine lv_aload_n hx hb dX4_isString_46 rfl (lv_at hl 0 rfl) ?_
            refine j7_read hx hb hown hK (C := RX4) (T := TX4) (N := 12) rfl hly_6_11 hlk_47 (hh_6.at 0 rfl) dX4_isString_47 ?_
            refine lv_aload_n hx hb dX4_isString_50 rfl (lv_at hl 0 rfl) ?_
            refine j7_read hx hb hown hK (C := RX4) (T := TX4) (N := 12) rfl hly_6_10 hlk_43 (hh_6.at 3 rfl) dX4_isString_51 ?_
            refine va_calli (A0 := jA base) (H0 := s.heap) (va_runS (As := [.ref rb, .int wt_6, .int pe]) (rest := []) ⟨hx, hb, hml, hown, hts⟩ (uX0_decoded l dC dI ca base B hB hAp hB100 G0 H_6 rb wt_6 pe n_rb) (va_cwS 3 hts (jgS (jWr_20 _ (List.mem_of_getElem? (i := 12) rfl)) (jWr_20 _ (List.mem_of_getElem? (i := 13) rfl)) (jWr_1 _ (List.mem_of_getElem? (i := 14) rfl)) (jWr_20 _ (List.mem_of_getElem? (i := 14) rfl))) rfl rfl rfl (by decide +kernel) ⟨by rw [← hR]; exact Nat.le_of_ble_eq_true rfl, by rw [← hR]; exact Nat.le_of_ble_eq_true rfl⟩) ⟨fun a U g mk q => by obtain ⟨q0, q1, q2, qK, q10, q11, q12⟩ := q; exact ⟨q0, q1, q2, jG.calling g mk a qK, q10, q11, q12⟩, fun U hU hW => ⟨rfl, hU, hh_6.2.1, hG.step hW hU hh_6.1, hg_rb, jP.nil, by first | omega | (refine ⟨?_, ?_⟩ <;> (first | omega | rfl | assumption | decide | exact Or.inl rfl | exact Or.inr rfl | (simp only; omega)))⟩⟩ rfl rfl hl.1 rfl (lv_room (Nat.le_of_ble_eq_true rfl)) dX4_isString_54 ⟨Nat.zero_le _, Nat.zero_le _⟩) hh_6.1 (fun q _ h => h) (fun q h => h) (fun r_10 u_9 t_9 H_9 locs_9 ht_9 hvm_9 hr_10 hb_9 hz_9 hk_9 hS_9 => ?_)
            rw [ht_9] at hb_9
            obtain ⟨hb_91, hb_92, hb_93, hb_94, hb_95⟩ := hb_9
            have hh_9 : jSt (dC, dI) B base G0 G0 EX4_isStringP s.heap 0 0 [(r0, 6, 11, .int wt_6), (r0, 6, 8, .int wu_6), (r0, 6, 9, .ref rb), (r0, 6, 10, .int pe)] [] [] H_9 locs_9 := ((hh_6.call hb_91 hb_92 hb_93 hb_94 hS_9 rfl (L1 := [(r0, 6, 11, .int wt_6), (r0, 6, 8, .int wu_6), (r0, 6, 9, .ref rb), (r0, 6, 10, .int pe)]) [0, 1, 2, 3] rfl rfl (M1 := []) [] rfl rfl (I1 := []) [] rfl rfl).more hb_95)
            clear hh_6 ht_9 hvm_9 hz_9 hk_9 hS_9 hb_91 hb_92 hb_93 hb_94 hb_95
            refine lv_istore_n (lv' := [(2, .int r_10), (0, .ref r0), (1, .int v1_6)]) hx hb dX4_isString_57 rfl hl (by decide) rfl (fun ls hl => ?_)
            refine lv_iload_n hx hb dX4_isString_58 rfl (lv_at hl 0 rfl) ?_
            refine lv_bipush (v := 34) hx hb dX4_isString_59 (by decide) ?_
            refine lv_icmp_ne (tgt := 76) hx hb dX4_isString_61 (by decide) (fun c_11 => ?_) (fun c_11 => ?_)
            · skip
              have c_11' : r_10.toInt ≠ 34 := jb_ne (rfl) ((by decide)) c_11
              refine lv_iload_n hx hb dX4_isString_76 rfl (lv_at hl 0 rfl) ?_
              refine lv_bipush (v := 32) hx hb dX4_isString_77 (by decide) ?_
              refine lv_icmp_ge (tgt := 84) hx hb dX4_isString_79 (by decide) (fun c_12 => ?_) (fun c_12 => ?_)
              · skip
                have c_12' : r_10.toInt ≥ 32 := jb_ge (rfl) ((by decide)) c_12
                refine lv_iload_n hx hb dX4_isString_84 rfl (lv_at hl 0 rfl) ?_
                refine lv_bipush (v := 92) hx hb dX4_isString_85 (by decide) ?_
                refine lv_icmp_ne (tgt := 120) hx hb dX4_isString_87 (by decide) (fun c_13 => ?_) (fun c_13 => ?_)
                · skip
                  have c_13' : r_10.toInt ≠ 92 := jb_ne (rfl) ((by decide)) c_13
                  refine lv_aload_n hx hb dX4_isString_120 rfl (lv_at hl 1 rfl) ?_
                  refine lv_dup hx hb dX4_isString_121 rfl ?_
                  refine j7_read hx hb hown hK (C := RX4) (T := TX4) (N := 12) rfl hly_6_11 hlk_47 (hh_9.at 0 rfl) dX4_isString_122 ?_
                  refine lv_iload_n hx hb dX4_isString_125 rfl (lv_at hl 0 rfl) ?_
                  refine va_calli (A0 := jA base) (H0 := s.heap) (va_runS (As := [.int r_10]) (rest := [.int wt_6, .ref r0]) ⟨hx, hb, hml, hown, hts⟩ (uX0_decodedSizeD l dC dI ca base B hB hAp G0 H_9 r_10) (va_cwS 1 hts (jgS (jWr_22 _ (List.mem_of_getElem? (i := 0) rfl)) (jWr_22 _ (List.mem_of_getElem? (i := 1) rfl)) (jWr_1 _ (List.mem_of_getElem? (i := 14) rfl)) (jWr_22 _ (List.mem_of_getElem? (i := 2) rfl))) rfl rfl rfl (by decide +kernel) ⟨by rw [← hR]; exact Nat.le_of_ble_eq_true rfl, by rw [← hR]; exact Nat.le_of_ble_eq_true rfl⟩) ⟨fun a U g mk q => by obtain ⟨q0, q1, q2, qK, q10, q11⟩ := q; exact ⟨q0, q1, q2, jG.calling g mk a qK, q10, q11⟩, fun U hU hW => ⟨rfl, hU, hh_9.2.1, hG.step hW hU hh_9.1, jP.nil, trivial⟩⟩ rfl rfl hl.1 rfl (lv_room (Nat.le_of_ble_eq_true rfl)) dX4_isString_126 ⟨Nat.zero_le _, Nat.zero_le _⟩) hh_9.1 (fun q _ h => h) (fun q h => h) (fun r_15 u_14 t_14 H_14 locs_14 ht_14 hvm_14 hr_15 hb_14 hz_14 hk_14 hS_14 => ?_)
                  rw [ht_14] at hb_14
                  obtain ⟨hb_141, hb_142, hb_143, hb_144, hb_145⟩ := hb_14
                  have hh_14 : jSt (dC, dI) B base G0 G0 EX4_isStringP s.heap 0 0 [(r0, 6, 11, .int wt_6), (r0, 6, 8, .int wu_6), (r0, 6, 9, .ref rb), (r0, 6, 10, .int pe)] [] [] H_14 locs_14 := ((hh_9.call hb_141 hb_142 hb_143 hb_144 hS_14 rfl (L1 := [(r0, 6, 11, .int wt_6), (r0, 6, 8, .int wu_6), (r0, 6, 9, .ref rb), (r0, 6, 10, .int pe)]) [0, 1, 2, 3] rfl rfl (M1 := []) [] rfl rfl (I1 := []) [] rfl rfl).more hb_145)
                  clear hh_9 ht_14 hvm_14 hz_14 hk_14 hS_14 hb_141 hb_142 hb_143 hb_144 hb_145
                  obtain ⟨hr_15_0, hr_15_1, hr_15_2⟩ := hr_15
                  refine lv_iadd hx hb dX4_isString_129 ?_
                  refine lv_topi (fun z_16 ez_16 => ?_)
                  have hz_16 : z_16.toInt = wt_6.toInt + r_15.toInt := by rw [ez_16]; exact jb_iadd2 (rfl) (rfl) (by omega)
                  refine j7_put hx hb hown hK hh_14 hB hAp hB6 (C := RX4) (T := TX4) (N := 12) rfl (by decide) hg_r0 (i := 11) (by decide) hly_6_11 rfl hlk_47 rfl (ty := .int) (v := .int z_16) (by decide +kernel) rfl rfl (⟨_, rfl, by omega, by omega⟩) rfl (L1 := [(r0, 6, 8, .int wu_6), (r0, 6, 9, .ref rb), (r0, 6, 10, .int pe)]) [1, 2, 3] rfl rfl rfl dX4_isString_130 (fun H_17 locs_17 hh_17 => ?_)
                  clear hh_14
                  refine lv_aload_n hx hb dX4_isString_133 rfl (lv_at hl 1 rfl) ?_
                  refine lv_iload_n hx hb dX4_isString_134 rfl (lv_at hl 0 rfl) ?_
                  refine va_callv (A0 := jA base) (H0 := s.heap) (va_runV (As := [.int r_10]) (rest := []) ⟨hx, hb, hml, hown, hts⟩ (uX4_addCharP l dC dI ca base B hB hAp hB6 hB146 G0 H_17 r0 r_10 wu_6) (cwV 1 hts (jgV (jWr_22 _ (List.mem_of_getElem? (i := 3) rfl)) (jWr_22 _ (List.mem_of_getElem? (i := 4) rfl)) (jWr_22 _ (List.mem_of_getElem? (i := 5) rfl)) (jWr_1 _ (List.mem_of_getElem? (i := 22) rfl)) (jWr_22 _ (List.mem_of_getElem? (i := 6) rfl))) rfl rfl rfl (by decide +kernel) ⟨by rw [← hR]; exact Nat.le_of_ble_eq_true rfl, by rw [← hR]; exact Nat.le_of_ble_eq_true rfl⟩) ⟨fun a U g mk q => by obtain ⟨q0, q1, q2, qK, q10, q11, q12⟩ := q; exact ⟨q0, q1, q2, jG.calling g mk a qK, q10, q11, q12⟩, hh_17.recv (C := RX4) (T := TX4) (N := 12) hB6 rfl (by decide) hg_r0 hK, fun U hU hW => ⟨rfl, hU, hh_17.2.1, hG.step hW hU hh_17.1, hg_r0, (hh_17.2.2.1.sub (L1 := [(r0, 6, 8, .int wu_6)]) [1] rfl), by first | omega | (refine ⟨?_, ?_⟩ <;> (first | omega | rfl | assumption | decide | exact Or.inl rfl | exact Or.inr rfl | (simp only; omega)))⟩⟩ rfl rfl hl.1 rfl (lv_room (Nat.le_of_ble_eq_true rfl)) dX4_isString_135 ⟨Nat.zero_le _, Nat.zero_le _⟩) hh_17.1 (fun q _ h => h) (fun q h => h) (fun u_18 t_18 H_18 locs_18 ht_18 hvm_18 hr_19 hb_18 hz_18 hk_18 hS_18 => ?_)
                  obtain ⟨qu_18, rfl⟩ : ∃ z, z = u_18 := ⟨_, rfl⟩
                  rw [ht_18] at hb_18
                  obtain ⟨hb_181, hb_182, hb_183, hb_184, hb_185⟩ := hb_18
                  have hh_18 : jSt (dC, dI) B base G0 G0 EX4_isStringP s.heap 0 0 [(r0, 6, 8, .int qu_18), (r0, 6, 11, .int z_16), (r0, 6, 9, .ref rb), (r0, 6, 10, .int pe)] [] [] H_18 locs_18 := ((hh_17.call hb_181 hb_182 hb_183 hb_184 hS_18 rfl (L1 := [(r0, 6, 11, .int z_16), (r0, 6, 9, .ref rb), (r0, 6, 10, .int pe)]) [0, 2, 3] rfl rfl (M1 := []) [] rfl rfl (I1 := []) [] rfl rfl).more hb_185)
                  clear hh_17 ht_18 hvm_18 hz_18 hk_18 hS_18 hb_181 hb_182 hb_183 hb_184 hb_185
                  obtain ⟨hr_19_0, hr_19_1, hr_19_2, hr_19_3⟩ := hr_19
                  obtain ⟨z_20, ez_20⟩ : ∃ y : Int32, y = v1_6 + 1 := ⟨_, rfl⟩
                  refine lv_iinc (v := z_20) (lv' := [(1, .int z_20), (2, .int r_10), (0, .ref r0)]) hx hb dX4_isString_138 hl (k := 2) rfl (by rw [ez_20]; rfl) (by decide) rfl (fun ls hl => ?_)
                  have hz_20 : z_20.toInt = v1_6.toInt + 1 := by rw [ez_20]; exact jb_iadd2 (rfl) (by decide) (by omega)
                  refine lv_goto (tgt := 23) hx hb dX4_isString_141 (by decide) ?_
                  exact L23 z_20 z_16 qu_18 _ _ (hh_18.sub (L1 := [(r0, 6, 11, .int z_16), (r0, 6, 8, .int qu_18), (r0, 6, 9, .ref rb), (r0, 6, 10, .int pe)]) [1, 0, 2, 3] rfl (M1 := []) [] rfl (I1 := []) [] rfl) (by first | omega | (refine ⟨?_, ?_, ?_, ?_, ?_, ?_⟩ <;> (first | omega | rfl | assumption | decide | exact Or.inl rfl | exact Or.inr rfl | (simp only; omega)))) (by omega) _ (lv_sub hl [2, 0] rfl)
                · skip
                  have c_13' : r_10.toInt = 92 := jb_ne_n (rfl) ((by decide)) c_13
                  refine lv_aload_n hx hb dX4_isString_90 rfl (lv_at hl 1 rfl) ?_
                  refine va_ldcS hx hb hown rstr146 dX4_isString_91 ?_
                  refine va_calli (A0 := jA base) (H0 := s.heap) (va_runV (As := [.ref str146]) (rest := []) ⟨hx, hb, hml, hown, hts⟩ (uX4_isWord l dC dI ca base B hB hAp hB6 hB100 G0 H_9 r0 str146 2 rb n_rb pe wt_6) (cwV 1 hts (jgV (jWr_20 _ (List.mem_of_getElem? (i := 19) rfl)) (jWr_20 _ (List.mem_of_getElem? (i := 20) rfl)) (jWr_20 _ (List.mem_of_getElem? (i := 21) rfl)) (jWr_1 _ (List.mem_of_getElem? (i := 22) rfl)) (jWr_20 _ (List.mem_of_getElem? (i := 22) rfl))) rfl rfl rfl (by decide +kernel) ⟨by rw [← hR]; exact Nat.le_of_ble_eq_true rfl, by rw [← hR]; exact Nat.le_of_ble_eq_true rfl⟩) ⟨fun a U g mk q => by obtain ⟨q0, q1, q2, qK, q10, q11, q12, q13, q14⟩ := q; exact ⟨q0, q1, q2, jG.calling g mk a qK, (q10.moved (Vm.Alike.refl U.vm)), q11, q12, q13, q14⟩, hh_9.recv (C := RX4) (T := TX4) (N := 12) hB6 rfl (by decide) hg_r0 hK, fun U hU hW => ⟨rfl, hU, hh_9.2.1, hG.step hW hU hh_9.1, (hstr146.moved hW.alike).kept hh_9.1.2.1, hg_r0, hg_rb, (hh_9.2.2.1.sub (L1 := [(r0, 6, 9, .ref rb), (r0, 6, 10, .int pe), (r0, 6, 11, .int wt_6)]) [2, 3, 0] rfl), by first | omega | (refine ⟨?_, ?_, ?_, ?_, ?_, ?_, ?_, ?_⟩ <;> (first | omega | rfl | assumption | decide | exact Or.inl rfl | exact Or.inr rfl | (simp only; omega)))⟩⟩ rfl rfl hl.1 rfl (lv_room (Nat.le_of_ble_eq_true rfl)) dX4_isString_93 ⟨Nat.zero_le _, Nat.zero_le _⟩) hh_9.1 (fun q _ h => h) (fun q h => h) (fun r_22 u_21 t_21 H_21 locs_21 ht_21 hvm_21 hr_22 hb_21 hz_21 hk_21 hS_21 => ?_)
                  obtain ⟨qt_21, rfl⟩ : ∃ z, z = u_21 := ⟨_, rfl⟩
                  rw [ht_21] at hb_21
                  obtain ⟨hb_211, hb_212, hb_213, hb_214, hb_215⟩ := hb_21
                  have hh_21 : jSt (dC, dI) B base G0 G0 EX4_isStringP s.heap 0 0 [(r0, 6, 11, .int qt_21), (r0, 6, 8, .int wu_6), (r0, 6, 9, .ref rb), (r0, 6, 10, .int pe)] [] [] H_21 locs_21 := ((hh_9.call hb_211 hb_212 hb_213 hb_214 hS_21 rfl (L1 := [(r0, 6, 8, .int wu_6), (r0, 6, 9, .ref rb), (r0, 6, 10, .int pe)]) [1, 2, 3] rfl rfl (M1 := []) [] rfl rfl (I1 := []) [] rfl rfl).more hb_215)
                  clear hh_9 ht_21 hvm_21 hz_21 hk_21 hS_21 hb_211 hb_212 hb_213 hb_214 hb_215
                  obtain ⟨hr_22b, hr_22p⟩ := hr_22
                  obtain ⟨hr_22p_0, hr_22p_1, hr_22p_2⟩ := hr_22p
                  have hr_22' := jb_01 hr_22b
                  refine lv_if_eq (tgt := 106) hx hb dX4_isString_96 (by decide) (fun c_23 => ?_) (fun c_23 => ?_)
                  · skip
                    have c_23' : r_22.toInt = 0 := jb_eq (rfl) ((by decide)) c_23
                    refine lv_aload_n hx hb dX4_isString_106 rfl (lv_at hl 1 rfl) ?_
                    refine va_calli (A0 := jA base) (H0 := s.heap) (va_runV (As := []) (rest := []) ⟨hx, hb, hml, hown, hts⟩ (uX4_isEscapeP l dC dI ca base B hB hAp hB6 hB100 hB146 G0 H_21 r0 rb n_rb pe qt_21 wu_6) (cwV 0 hts (jgV (jWr_21 _ (List.mem_of_getElem? (i := 20) rfl)) (jWr_21 _ (List.mem_of_getElem? (i := 21) rfl)) (jWr_21 _ (List.mem_of_getElem? (i := 22) rfl)) (jWr_1 _ (List.mem_of_getElem? (i := 22) rfl)) (jWr_21 _ (List.mem_of_getElem? (i := 23) rfl))) rfl rfl rfl (by decide +kernel) ⟨by rw [← hR]; exact Nat.le_of_ble_eq_true rfl, by rw [← hR]; exact Nat.le_of_ble_eq_true rfl⟩) ⟨fun a U g mk q => by obtain ⟨q0, q1, q2, qK, q10, q11, q12, q13⟩ := q; exact ⟨q0, q1, q2, jG.calling g mk a qK, q10, q11, q12, q13⟩, hh_21.recv (C := RX4) (T := TX4) (N := 12) hB6 rfl (by decide) hg_r0 hK, fun U hU hW => ⟨rfl, hU, hh_21.2.1, hG.step hW hU hh_21.1, hg_r0, hg_rb, (hh_21.2.2.1.sub (L1 := [(r0, 6, 9, .ref rb), (r0, 6, 10, .int pe), (r0, 6, 11, .int qt_21), (r0, 6, 8, .int wu_6)]) [2, 3, 0, 1] rfl), by first | omega | (refine ⟨?_, ?_, ?_, ?_, ?_, ?_, ?_, ?_⟩ <;> (first | omega | rfl | assumption | decide | exact Or.inl rfl | exact Or.inr rfl | (simp only; omega)))⟩⟩ rfl rfl hl.1 rfl (lv_room (Nat.le_of_ble_eq_true rfl)) dX4_isString_107 ⟨Nat.zero_le _, Nat.zero_le _⟩) hh_21.1 (fun q _ h => h) (fun q h => h) (fun r_25 u_24 t_24 H_24 locs_24 ht_24 hvm_24 hr_25 hb_24 hz_24 hk_24 hS_24 => ?_)
                    obtain ⟨qt_24, qu_24⟩ := u_24
                    rw [ht_24] at hb_24
                    obtain ⟨hb_241, hb_242, hb_243, hb_244, hb_245⟩ := hb_24
                    have hh_24 : jSt (dC, dI) B base G0 G0 EX4_isStringP s.heap 0 0 [(r0, 6, 11, .int qt_24), (r0, 6, 8, .int qu_24), (r0, 6, 9, .ref rb), (r0, 6, 10, .int pe)] [] [] H_24 locs_24 := ((hh_21.call hb_241 hb_242 hb_243 hb_244 hS_24 rfl (L1 := [(r0, 6, 9, .ref rb), (r0, 6, 10, .int pe)]) [2, 3] rfl rfl (M1 := []) [] rfl rfl (I1 := []) [] rfl rfl).more hb_245)
                    clear hh_21 ht_24 hvm_24 hz_24 hk_24 hS_24 hb_241 hb_242 hb_243 hb_244 hb_245
                    try simp only at hr_25
                    obtain ⟨hr_25b, hr_25p⟩ := hr_25
                    obtain ⟨hr_25p_0, hr_25p_1, hr_25p_2, hr_25p_3, hr_25p_4⟩ := hr_25p
                    have hr_25' := jb_01 hr_25b
                    refine lv_istore_n (lv' := [(3, .int r_25), (2, .int r_10), (0, .ref r0), (1, .int v1_6)]) hx hb dX4_isString_110 rfl hl (by decide) rfl (fun ls hl => ?_)
                    refine lv_iload_n hx hb dX4_isString_111 rfl (lv_at hl 0 rfl) ?_
                    refine lv_if_ne (tgt := 117) hx hb dX4_isString_112 (by decide) (fun c_26 => ?_) (fun c_26 => ?_)
                    · skip
                      have c_26' : r_25.toInt ≠ 0 := jb_ne (rfl) ((by decide)) c_26
                      refine lv_goto (tgt := 138) hx hb dX4_isString_117 (by decide) ?_
                      obtain ⟨z_27, ez_27⟩ : ∃ y : Int32, y = v1_6 + 1 := ⟨_, rfl⟩
                      refine lv_iinc (v := z_27) (lv' := [(1, .int z_27), (3, .int r_25), (2, .int r_10), (0, .ref r0)]) hx hb dX4_isString_138 hl (k := 3) rfl (by rw [ez_27]; rfl) (by decide) rfl (fun ls hl => ?_)
                      have hz_27 : z_27.toInt = v1_6.toInt + 1 := by rw [ez_27]; exact jb_iadd2 (rfl) (by decide) (by omega)
                      refine lv_goto (tgt := 23) hx hb dX4_isString_141 (by decide) ?_
                      exact L23 z_27 qt_24 qu_24 _ _ hh_24 (by first | omega | (refine ⟨?_, ?_, ?_, ?_, ?_, ?_⟩ <;> (first | omega | rfl | assumption | decide | exact Or.inl rfl | exact Or.inr rfl | (simp only; omega)))) (by omega) _ (lv_sub hl [3, 0] rfl)
                    · skip
                      have c_26' : r_25.toInt = 0 := jb_ne_n (rfl) ((by decide)) c_26
                      refine lv_iconst (v := 0) hx hb dX4_isString_115 (by decide) ?_
                      rw [hQ]
                      exact W.zret (v := 0) hx hb hr (jb_nz (Or.inl rfl)) (fun t ht hW => ⟨⟨0, (qt_24, qu_24), rfl, ⟨(Or.inl rfl), by first | omega | (refine ⟨?_, ?_, ?_, ?_, ?_⟩ <;> (first | omega | rfl | assumption | decide | exact Or.inl rfl | exact Or.inr rfl | (simp only; omega)))⟩, hh_24.rt (M1 := [(r0, 6, 11, .int qt_24), (r0, 6, 8, .int qu_24)]) [0, 1] rfl ht⟩, by rw [ht]; try exact hh_24.1.1, fun q h9 hq => by rw [ht]; try exact hh_24.1.2.1 q h9 hq⟩) hh_24.1.2.2 dX4_isString_116
                  · skip
                    have c_23' : r_22.toInt ≠ 0 := jb_eq_n (rfl) ((by decide)) c_23
                    refine lv_aload_n hx hb dX4_isString_99 rfl (lv_at hl 1 rfl) ?_
                    refine va_calli (A0 := jA base) (H0 := s.heap) (va_runV (As := []) (rest := []) ⟨hx, hb, hml, hown, hts⟩ (uX4_isUnitEscapeP l dC dI ca base B hB hAp hB6 hB100 hB146 G0 H_21 r0 rb n_rb pe qt_21 wu_6) (cwV 0 hts (jgV (jWr_21 _ (List.mem_of_getElem? (i := 1) rfl)) (jWr_21 _ (List.mem_of_getElem? (i := 2) rfl)) (jWr_21 _ (List.mem_of_getElem? (i := 3) rfl)) (jWr_1 _ (List.mem_of_getElem? (i := 22) rfl)) (jWr_21 _ (List.mem_of_getElem? (i := 4) rfl))) rfl rfl rfl (by decide +kernel) ⟨by rw [← hR]; exact Nat.le_of_ble_eq_true rfl, by rw [← hR]; exact Nat.le_of_ble_eq_true rfl⟩) ⟨fun a U g mk q => by obtain ⟨q0, q1, q2, qK, q10, q11, q12, q13⟩ := q; exact ⟨q0, q1, q2, jG.calling g mk a qK, q10, q11, q12, q13⟩, hh_21.recv (C := RX4) (T := TX4) (N := 12) hB6 rfl (by decide) hg_r0 hK, fun U hU hW => ⟨rfl, hU, hh_21.2.1, hG.step hW hU hh_21.1, hg_r0, hg_rb, (hh_21.2.2.1.sub (L1 := [(r0, 6, 9, .ref rb), (r0, 6, 10, .int pe), (r0, 6, 11, .int qt_21), (r0, 6, 8, .int wu_6)]) [2, 3, 0, 1] rfl), by first | omega | (refine ⟨?_, ?_, ?_, ?_, ?_, ?_, ?_, ?_⟩ <;> (first | omega | rfl | assumption | decide | exact Or.inl rfl | exact Or.inr rfl | (simp only; omega)))⟩⟩ rfl rfl hl.1 rfl (lv_room (Nat.le_of_ble_eq_true rfl)) dX4_isString_100 ⟨Nat.zero_le _, Nat.zero_le _⟩) hh_21.1 (fun q _ h => h) (fun q h => h) (fun r_29 u_28 t_28 H_28 locs_28 ht_28 hvm_28 hr_29 hb_28 hz_28 hk_28 hS_28 => ?_)
                    obtain ⟨qt_28, qu_28⟩ := u_28
                    rw [ht_28] at hb_28
                    obtain ⟨hb_281, hb_282, hb_283, hb_284, hb_285⟩ := hb_28
                    have hh_28 : jSt (dC, dI) B base G0 G0 EX4_isStringP s.heap 0 0 [(r0, 6, 11, .int qt_28), (r0, 6, 8, .int qu_28), (r0, 6, 9, .ref rb), (r0, 6, 10, .int pe)] [] [] H_28 locs_28 := ((hh_21.call hb_281 hb_282 hb_283 hb_284 hS_28 rfl (L1 := [(r0, 6, 9, .ref rb), (r0, 6, 10, .int pe)]) [2, 3] rfl rfl (M1 := []) [] rfl rfl (I1 := []) [] rfl rfl).more hb_285)
                    clear hh_21 ht_28 hvm_28 hz_28 hk_28 hS_28 hb_281 hb_282 hb_283 hb_284 hb_285
                    try simp only at hr_29
                    obtain ⟨hr_29b, hr_29p⟩ := hr_29
                    obtain ⟨hr_29p_0, hr_29p_1, hr_29p_2, hr_29p_3, hr_29p_4⟩ := hr_29p
                    have hr_29' := jb_01 hr_29b
                    refine lv_goto (tgt := 110) hx hb dX4_isString_103 (by decide) ?_
                    refine lv_istore_n (lv' := [(3, .int r_29), (2, .int r_10), (0, .ref r0), (1, .int v1_6)]) hx hb dX4_isString_110 rfl hl (by decide) rfl (fun ls hl => ?_)
                    refine lv_iload_n hx hb dX4_isString_111 rfl (lv_at hl 0 rfl) ?_
                    refine lv_if_ne (tgt := 117) hx hb dX4_isString_112 (by decide) (fun c_30 => ?_) (fun c_30 => ?_)
                    · skip
                      have c_30' : r_29.toInt ≠ 0 := jb_ne (rfl) ((by decide)) c_30
                      first | (have hr_29p_4q := hr_29p_4.resolve_left (by omega); clear hr_29p_4) | (have hr_29p_4q := hr_29p_4.resolve_right (by omega); clear hr_29p_4) | skip
                      refine lv_goto (tgt := 138) hx hb dX4_isString_117 (by decide) ?_
                      obtain ⟨z_31, ez_31⟩ : ∃ y : Int32, y = v1_6 + 1 := ⟨_, rfl⟩
                      refine lv_iinc (v := z_31) (lv' := [(1, .int z_31), (3, .int r_29), (2, .int r_10), (0, .ref r0)]) hx hb dX4_isString_138 hl (k := 3) rfl (by rw [ez_31]; rfl) (by decide) rfl (fun ls hl => ?_)
                      have hz_31 : z_31.toInt = v1_6.toInt + 1 := by rw [ez_31]; exact jb_iadd2 (rfl) (by decide) (by omega)
                      refine lv_goto (tgt := 23) hx hb dX4_isString_141 (by decide) ?_
                      exact L23 z_31 qt_28 qu_28 _ _ hh_28 (by first | omega | (refine ⟨?_, ?_, ?_, ?_, ?_, ?_⟩ <;> (first | omega | rfl | assumption | decide | exact Or.inl rfl | exact Or.inr rfl | (simp only; omega)))) (by omega) _ (lv_sub hl [3, 0] rfl)
                    · skip
                      have c_30' : r_29.toInt = 0 := jb_ne_n (rfl) ((by decide)) c_30
                      first | (have hr_29p_4q := hr_29p_4.resolve_left (by omega); clear hr_29p_4) | (have hr_29p_4q := hr_29p_4.resolve_right (by omega); clear hr_29p_4) | skip
                      refine lv_iconst (v := 0) hx hb dX4_isString_115 (by decide) ?_
                      rw [hQ]
                      exact W.zret (v := 0) hx hb hr (jb_nz (Or.inl rfl)) (fun t ht hW => ⟨⟨0, (qt_28, qu_28), rfl, ⟨(Or.inl rfl), by first | omega | (refine ⟨?_, ?_, ?_, ?_, ?_⟩ <;> (first | omega | rfl | assumption | decide | exact Or.inl rfl | exact Or.inr rfl | (simp only; omega)))⟩, hh_28.rt (M1 := [(r0, 6, 11, .int qt_28), (r0, 6, 8, .int qu_28)]) [0, 1] rfl ht⟩, by rw [ht]; try exact hh_28.1.1, fun q h9 hq => by rw [ht]; try exact hh_28.1.2.1 q h9 hq⟩) hh_28.1.2.2 dX4_isString_116
              · skip
                have c_12' : r_10.toInt < 32 := jb_ge_n (rfl) ((by decide)) c_12
                refine lv_iconst (v := 0) hx hb dX4_isString_82 (by decide) ?_
                rw [hQ]
                exact W.zret (v := 0) hx hb hr (jb_nz (Or.inl rfl)) (fun t ht hW => ⟨⟨0, (wt_6, wu_6), rfl, ⟨(Or.inl rfl), by first | omega | (refine ⟨?_, ?_, ?_, ?_, ?_⟩ <;> (first | omega | rfl | assumption | decide | exact Or.inl rfl | exact Or.inr rfl | (simp only; omega)))⟩, hh_9.rt (M1 := [(r0, 6, 11, .int wt_6), (r0, 6, 8, .int wu_6)]) [0, 1] rfl ht⟩, by rw [ht]; try exact hh_9.1.1, fun q h9 hq => by rw [ht]; try exact hh_9.1.2.1 q h9 hq⟩) hh_9.1.2.2 dX4_isString_83
            · skip
              have c_11' : r_10.toInt = 34 := jb_ne_n (rfl) ((by decide)) c_11
              refine lv_aload_n hx hb dX4_isString_64 rfl (lv_at hl 1 rfl) ?_
              refine lv_dup hx hb dX4_isString_65 rfl ?_
              refine j7_read hx hb hown hK (C := RX4) (T := TX4) (N := 12) rfl hly_6_11 hlk_47 (hh_9.at 0 rfl) dX4_isString_66 ?_
              refine lv_iconst (v := 1) hx hb dX4_isString_69 (by decide) ?_
              refine lv_iadd hx hb dX4_isString_70 ?_
              refine lv_topi (fun z_32 ez_32 => ?_)
              have hz_32 : z_32.toInt = wt_6.toInt + 1 := by rw [ez_32]; exact jb_iadd2 (rfl) ((by decide)) (by omega)
              refine j7_put hx hb hown hK hh_9 hB hAp hB6 (C := RX4) (T := TX4) (N := 12) rfl (by decide) hg_r0 (i := 11) (by decide) hly_6_11 rfl hlk_47 rfl (ty := .int) (v := .int z_32) (by decide +kernel) rfl rfl (⟨_, rfl, by omega, by omega⟩) rfl (L1 := [(r0, 6, 8, .int wu_6), (r0, 6, 9, .ref rb), (r0, 6, 10, .int pe)]) [1, 2, 3] rfl rfl rfl dX4_isString_71 (fun H_33 locs_33 hh_33 => ?_)
              clear hh_9
              refine lv_iconst (v := 1) hx hb dX4_isString_74 (by decide) ?_
              rw [hQ]
              exact W.zret (v := 1) hx hb hr (jb_nz (Or.inr rfl)) (fun t ht hW => ⟨⟨1, (z_32, wu_6), rfl, ⟨(Or.inr rfl), by first | omega | (refine ⟨?_, ?_, ?_, ?_, ?_⟩ <;> (first | omega | rfl | assumption | decide | exact Or.inl rfl | exact Or.inr rfl | (simp only; omega)))⟩, hh_33.rt (M1 := [(r0, 6, 11, .int z_32), (r0, 6, 8, .int wu_6)]) [0, 1] rfl ht⟩, by rw [ht]; try exact hh_33.1.1, fun q h9 hq => by rw [ht]; try exact hh_33.1.2.1 q h9 hq⟩) hh_33.1.2.2 dX4_isString_75
    exact L23 (((pe.toInt - (0 : Int32).toInt).toNat : Int) : Int).toNat.succ 0 z_4 pu _ _ (hh_5.sub (L1 := [(r0, 6, 11, .int z_4), (r0, 6, 8, .int pu), (r0, 6, 9, .ref rb), (r0, 6, 10, .int pe)]) [0, 3, 1, 2] rfl (M1 := []) [] rfl (I1 := []) [] rfl) (by first | omega | (refine ⟨?_, ?_, ?_, ?_, ?_, ?_⟩ <;> (first | omega | rfl | assumption | decide | exact Or.inl rfl | exact Or.inr rfl | (simp only; omega)))) (by omega) _ (lv_sub hl [1, 0] rfl)
  · skip
    have c_3' : r_2.toInt ≠ 34 := jb_eq_n (rfl) ((by decide)) c_3
    try clear hr_2_2
    refine lv_iconst (v := 0) hx hb dX4_isString_9 (by decide) ?_
    rw [hQ]
    exact W.zret (v := 0) hx hb hr (jb_nz (Or.inl rfl)) (fun t ht hW => ⟨⟨0, (pt, pu), rfl, ⟨(Or.inl rfl), by first | omega | (refine ⟨?_, ?_, ?_, ?_, ?_⟩ <;> (first | omega | rfl | assumption | decide | exact Or.inl rfl | exact Or.inr rfl | (simp only; omega)))⟩, hh_1.rt (M1 := [(r0, 6, 11, .int pt), (r0, 6, 8, .int pu)]) [2, 3] rfl ht⟩, by rw [ht]; try exact hh_1.1.1, fun q h9 hq => by rw [ht]; try exact hh_1.1.2.1 q h9 hq⟩) hh_1.1.2.2 dX4_isString_10
end
