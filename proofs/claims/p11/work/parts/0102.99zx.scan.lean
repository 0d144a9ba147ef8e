section
-- what stands below a place stays
def EX10_peekB : List (Nat × Nat) := []
def EX10_peekNameB : List (Nat × Nat) := []
def EX10_isSignB : List (Nat × Nat) := [(12, 4)]
def EX10_isNameB : List (Nat × Nat) := [(12, 4), (12, 7), (292, 0)]
def EX10_isArityB : List (Nat × Nat) := [(12, 4), (12, 8)]
def EX10_addNodeB : List (Nat × Nat) := [(12, 10), (280, 0)]
def EX10_insertNodeB : List (Nat × Nat) := [(12, 10), (280, 0)]
set_option maxHeartbeats 4000000 in
set_option maxRecDepth 20000 in
theorem uX10_peekB (l : Launch) (dC : Nat → ClassId) (dI : Nat → Nat → Nat) (ca : Nat → ClassId) (base : Nat) (B : jF) (hB : jBok B) (hAp : jAp (dC, dI)) (hB12 : ∀ n G a H, B 12 n G a H ↔ jOb (dC, dI) 12 11 (F12b n G) a H) (hB101 : ∀ n G a H, B 101 n G a H ↔ jAr (dC, dI) (ca 1) (fun j z => True) n a H) (G0 : jT) (H0 : Heap) (r0 : Nat) (tk : Int32) (pa : Int32) : Met l yX10_peek (jw yX10_peek cX10_peek 1 (some .int)) ({ frames := 0, cells := 0, slots := 0, locals := 0 }) (va_Pc [.ref r0] (fun U => U.heap = H0 ∧ jX B base G0 [] H0 ∧ jG dC dI ca base U ∧ G0 r0 = some (12, 0) ∧ jP (dC, dI) G0 H0 [(r0, 12, 3, .int tk), (r0, 12, 4, .int pa)] ∧ 0 ≤ tk.toInt ∧ tk.toInt ≤ 1500 ∧ 0 ≤ pa.toInt ∧ pa.toInt ≤ 1503)) (va_Qi (S := Unit) (fun r u => (r.toInt = 0 ∨ pa.toInt < tk.toInt)) (fun u t => jRt (dC, dI) B base G0 EX10_peekB H0 [] t.heap) (jA base)) 0 0 (jA base) := by
  refine Met.ofW (cc := cX10_peek) (maxL := 1) (ret := (some .int)) (by decide) rfl ?_
  intro p e s m args below meth c s₁ Bd hml hv
  obtain ⟨rfl, hH0, hX, hG, hg_r0, hP0, hp0, hp1, hp2, hp3⟩ := hv
  have hK := hG.1
  have hx := Bd.exec
  have hb := Bd.bytes
  have hr := Bd.returns
  have hts := atoms_spec (ws := (jw yX10_peek cX10_peek 1 (some .int))) Bd.pre
  have htw : ∀ w ∈ jWl, w.before _ s = true := fun w h => hts w (List.mem_cons_of_mem _ h)
  have hown : s.vm.findClass RX10 = some m.cls := findClass_of_methodNamed Bd.named
  have hlocks := Bd.notSynchronized
  obtain ⟨Q, hQ⟩ : ∃ Q, Q = MQ below (va_Qi (S := Unit) (fun r u => (r.toInt = 0 ∨ pa.toInt < tk.toInt)) (fun u t => jRt (dC, dI) B base G0 EX10_peekB H0 [] t.heap) (jA base)) ([.ref r0] : List Value).toArray s 0 0 (jA base) := ⟨_, rfl⟩
  rw [← hQ]
  have hl := lv_entry ([.ref r0]) (n := 1) (Nat.le_of_ble_eq_true rfl)
  rw [lg_entry_eq]
  generalize (lg_sl ([.ref r0]) ++ List.replicate (1 - (lg_sl ([.ref r0])).length) Slot.unset).toArray = ls at hl ⊢
  have hl : lv_has ls 1 [(0, .ref r0)] := hl
  generalize hR : (headSpec (jw yX10_peek cX10_peek 1 (some .int)) ({ frames := 0, cells := 0, slots := 0, locals := 0 })).room = R
  subst hH0
  have hh : jSt (dC, dI) B base G0 G0 EX10_peekB s.heap 0 0 [(r0, 12, 3, .int tk), (r0, 12, 4, .int pa)] [] [] s.heap [] := jSt.start hX hP0 jMc.nil jIs.nil
  clear hX hP0
  have hk0 : (0 : Int32).toInt = 0 := by decide
  have hk1 : (1 : Int32).toInt = 1 := by decide
  have hk1500 : (1500 : Int32).toInt = 1500 := by decide
  have hly_12_1 := htw (u_lay RX10 TX10 1) (jWc_wsX100 _ (u_in_lay (by decide)))
  have hly_12_3 := htw (u_lay RX10 TX10 3) (jWc_wsX100 _ (u_in_lay (by decide)))
  have hly_12_4 := htw (u_lay RX10 TX10 4) (jWc_wsX100 _ (u_in_lay (by decide)))
  have hlk_83 := (htw (.fieldLink RX10 83 "ProofServer$Syntax" "at" "I") (jWr_79 _ (List.mem_of_getElem? (i := 5) rfl)))
  have hlk_28 := (htw (.fieldLink RX10 28 "ProofServer$Syntax" "tokens" "I") (jWr_36 _ (List.mem_of_getElem? (i := 23) rfl)))
  have hlk_9 := (htw (.fieldLink RX10 9 "ProofServer$Syntax" "kinds" "[I") (jWr_8 _ (List.mem_of_getElem? (i := 8) rfl)))
  refine lv_aload_n hx hb dX10_peek_0 rfl (lv_at hl 0 rfl) ?_
  refine j7_read hx hb hown hK (C := RX10) (T := TX10) (N := 11) rfl hly_12_4 hlk_83 (hh.at 1 rfl) dX10_peek_1 ?_
  refine lv_aload_n hx hb dX10_peek_4 rfl (lv_at hl 0 rfl) ?_
  refine j7_read hx hb hown hK (C := RX10) (T := TX10) (N := 11) rfl hly_12_3 hlk_28 (hh.at 0 rfl) dX10_peek_5 ?_
  refine lv_icmp_ge (tgt := 33) hx hb dX10_peek_8 (by decide) (fun c_1 => ?_) (fun c_1 => ?_)
  · skip
    have c_1' : pa.toInt ≥ tk.toInt := jb_ge (rfl) (rfl) c_1
    refine lv_iconst (v := 0) hx hb dX10_peek_33 (by decide) ?_
    rw [hQ]
    exact W.iret (v := 0) hx hb hr (fun t ht hW => ⟨⟨0, (), rfl, by first | omega | rfl | assumption | decide | exact Or.inl rfl | exact Or.inr rfl | (simp only; omega), hh.rt (M1 := []) [] rfl ht⟩, by rw [ht]; try exact hh.1.1, fun q h9 hq => by rw [ht]; try exact hh.1.2.1 q h9 hq⟩) hh.1.2.2 dX10_peek_34
  · skip
    have c_1' : pa.toInt < tk.toInt := jb_ge_n (rfl) (rfl) c_1
    refine lv_aload_n hx hb dX10_peek_11 rfl (lv_at hl 0 rfl) ?_
    refine j7_read hx hb hown hK (C := RX10) (T := TX10) (N := 11) rfl hly_12_4 hlk_83 (hh.at 1 rfl) dX10_peek_12 ?_
    refine lv_sipush (v := 1500) hx hb dX10_peek_15 (by decide) ?_
    refine lv_icmp_ge (tgt := 33) hx hb dX10_peek_18 (by decide) (fun c_2 => ?_) (fun c_2 => ?_)
    · skip
      have c_2' : pa.toInt ≥ 1500 := jb_ge (rfl) ((by decide)) c_2
      refine lv_iconst (v := 0) hx hb dX10_peek_33 (by decide) ?_
      rw [hQ]
      exact W.iret (v := 0) hx hb hr (fun t ht hW => ⟨⟨0, (), rfl, by first | omega | rfl | assumption | decide | exact Or.inl rfl | exact Or.inr rfl | (simp only; omega), hh.rt (M1 := []) [] rfl ht⟩, by rw [ht]; try exact hh.1.1, fun q h9 hq => by rw [ht]; try exact hh.1.2.1 q h9 hq⟩) hh.1.2.2 dX10_peek_34
    · skip
      have c_2' : pa.toInt < 1500 := jb_ge_n (rfl) ((by decide)) c_2
      refine lv_aload_n hx hb dX10_peek_21 rfl (lv_at hl 0 rfl) ?_
      obtain ⟨v_3, hv_3, hh_4⟩ := hh.pin (C := RX10) (T := TX10) (N := 11) hB12 rfl (by decide) hg_r0 (i := 1) (by decide) rfl
      clear hh
      obtain ⟨kinds_5, rfl, hg_kinds_5⟩ := hv_3
      refine j7_read hx hb hown hK (C := RX10) (T := TX10) (N := 11) rfl hly_12_1 hlk_9 (hh_4.at 0 rfl) dX10_peek_22 ?_
      refine lv_aload_n hx hb dX10_peek_25 rfl (lv_at hl 0 rfl) ?_
      refine j7_read hx hb hown hK (C := RX10) (T := TX10) (N := 11) rfl hly_12_4 hlk_83 (hh_4.at 2 rfl) dX10_peek_26 ?_
      refine j7_iald hx hb hK hh_4 hB101 1 rfl (by decide) hg_kinds_5 (x := pa.toInt) (rfl) (by omega) dX10_peek_29 (fun z_6 (hz_6 : True) => ?_)
      refine lv_goto (tgt := 34) hx hb dX10_peek_30 (by decide) ?_
      rw [hQ]
      exact W.iret (v := z_6) hx hb hr (fun t ht hW => ⟨⟨z_6, (), rfl, by first | omega | rfl | assumption | decide | exact Or.inl rfl | exact Or.inr rfl | (simp only; omega), hh_4.rt (M1 := []) [] rfl ht⟩, by rw [ht]; try exact hh_4.1.1, fun q h9 hq => by rw [ht]; try exact hh_4.1.2.1 q h9 hq⟩) hh_4.1.2.2 dX10_peek_34
set_option maxHeartbeats 4000000 in
set_option maxRecDepth 20000 in
theorem uX10_peekNameB (l : Launch) (dC : Nat → ClassId) (dI : Nat → Nat → Nat) (ca : Nat → ClassId) (base : Nat) (B : jF) (hB : jBok B) (hAp : jAp (dC, dI)) (hB12 : ∀ n G a H, B 12 n G a H ↔ jOb (dC, dI) 12 11 (F12b n G) a H) (hB101 : ∀ n G a H, B 101 n G a H ↔ jAr (dC, dI) (ca 1) (fun j z => True) n a H) (hB293 : ∀ n G a H, B 293 n G a H ↔ jAr (dC, dI) (ca 1) (fun j z => -1 ≤ z.toInt ∧ z.toInt ≤ 8191) n a H) (G0 : jT) (H0 : Heap) (r0 : Nat) (tk : Int32) (pa : Int32) : Met l yX10_peekName (jw yX10_peekName cX10_peekName 1 (some .int)) ({ frames := 1, cells := 0, slots := 0, locals := 20 }) (va_Pc [.ref r0] (fun U => U.heap = H0 ∧ jX B base G0 [] H0 ∧ jG dC dI ca base U ∧ G0 r0 = some (12, 0) ∧ jP (dC, dI) G0 H0 [(r0, 12, 3, .int tk), (r0, 12, 4, .int pa)] ∧ 0 ≤ tk.toInt ∧ tk.toInt ≤ 1500 ∧ 0 ≤ pa.toInt ∧ pa.toInt ≤ 1503)) (va_Qi (S := Unit) (fun r u => ((r.toInt = -1 ∨ pa.toInt < tk.toInt) ∧ -1 ≤ r.toInt ∧ r.toInt ≤ 8191)) (fun u t => jRt (dC, dI) B base G0 EX10_peekNameB H0 [] t.heap) (jA base)) 0 0 (jA base) := by
  refine Met.ofW (cc := cX10_peekName) (maxL := 1) (ret := (some .int)) (by decide) rfl ?_
  intro p e s m args below meth c s₁ Bd hml hv
  obtain ⟨rfl, hH0, hX, hG, hg_r0, hP0, hp0, hp1, hp2, hp3⟩ := hv
  have hK := hG.1
  have hx := Bd.exec
  have hb := Bd.bytes
  have hr := Bd.returns
  have hts := atoms_spec (ws := (jw yX10_peekName cX10_peekName 1 (some .int))) Bd.pre
  have htw : ∀ w ∈ jWl, w.before _ s = true := fun w h => hts w (List.mem_cons_of_mem _ h)
  have hown : s.vm.findClass RX10 = some m.cls := findClass_of_methodNamed Bd.named
  have hlocks := Bd.notSynchronized
  obtain ⟨Q, hQ⟩ : ∃ Q, Q = MQ below (va_Qi (S := Unit) (fun r u => ((r.toInt = -1 ∨ pa.toInt < tk.toInt) ∧ -1 ≤ r.toInt ∧ r.toInt ≤ 8191)) (fun u t => jRt (dC, dI) B base G0 EX10_peekNameB H0 [] t.heap) (jA base)) ([.ref r0] : List Value).toArray s 0 0 (jA base) := ⟨_, rfl⟩
  rw [← hQ]
  have hl := lv_entry ([.ref r0]) (n := 1) (Nat.le_of_ble_eq_true rfl)
  rw [lg_entry_eq]
  generalize (lg_sl ([.ref r0]) ++ List.replicate (1 - (lg_sl ([.ref r0])).length) Slot.unset).toArray = ls at hl ⊢
  have hl : lv_has ls 1 [(0, .ref r0)] := hl
  generalize hR : (headSpec (jw yX10_peekName cX10_peekName 1 (some .int)) ({ frames := 1, cells := 0, slots := 0, locals := 20 })).room = R
  subst hH0
  have hh : jSt (dC, dI) B base G0 G0 EX10_peekNameB s.heap 0 0 [(r0, 12, 3, .int tk), (r0, 12, 4, .int pa)] [] [] s.heap [] := jSt.start hX hP0 jMc.nil jIs.nil
  clear hX hP0
  have hkm1 : ((-1) : Int32).toInt = (-1) := by decide
  have hk0 : (0 : Int32).toInt = 0 := by decide
  have hk1 : (1 : Int32).toInt = 1 := by decide
  have hk110 : (110 : Int32).toInt = 110 := by decide
  have hly_12_2 := htw (u_lay RX10 TX10 2) (jWc_wsX100 _ (u_in_lay (by decide)))
  have hly_12_4 := htw (u_lay RX10 TX10 4) (jWc_wsX100 _ (u_in_lay (by decide)))
  have hlk_15 := (htw (.fieldLink RX10 15 "ProofServer$Syntax" "values" "[I") (jWr_8 _ (List.mem_of_getElem? (i := 9) rfl)))
  have hlk_83 := (htw (.fieldLink RX10 83 "ProofServer$Syntax" "at" "I") (jWr_79 _ (List.mem_of_getElem? (i := 5) rfl)))
  refine lv_aload_n hx hb dX10_peekName_0 rfl (lv_at hl 0 rfl) ?_
  refine va_calli (A0 := jA base) (H0 := s.heap) (va_runV (As := []) (rest := []) ⟨hx, hb, hml, hown, hts⟩ (uX10_peekB l dC dI ca base B hB hAp hB12 hB101 G0 s.heap r0 tk pa) (cwV 0 hts (jgV (jWr_79 _ (List.mem_of_getElem? (i := 18) rfl)) (jWr_79 _ (List.mem_of_getElem? (i := 19) rfl)) (jWr_79 _ (List.mem_of_getElem? (i := 20) rfl)) (jWr_4 _ (List.mem_of_getElem? (i := 14) rfl)) (jWr_79 _ (List.mem_of_getElem? (i := 21) rfl))) rfl rfl rfl (by decide +kernel) ⟨by rw [← hR]; exact Nat.le_of_ble_eq_true rfl, by rw [← hR]; exact Nat.le_of_ble_eq_true rfl⟩) ⟨fun a U g mk q => by obtain ⟨q0, q1, q2, qK, q10, q11, q12⟩ := q; exact ⟨q0, q1, q2, jG.calling g mk a qK, q10, q11, q12⟩, hh.recv (C := RX10) (T := TX10) (N := 11) hB12 rfl (by decide) hg_r0 hK, fun U hU hW => ⟨rfl, hU, hh.2.1, hG.step hW hU hh.1, hg_r0, (hh.2.2.1.sub (L1 := [(r0, 12, 3, .int tk), (r0, 12, 4, .int pa)]) [0, 1] rfl), by first | omega | (refine ⟨?_, ?_, ?_, ?_⟩ <;> (first | omega | rfl | assumption | decide | exact Or.inl rfl | exact Or.inr rfl | (simp only; omega)))⟩⟩ rfl rfl hl.1 rfl (lv_room (Nat.le_of_ble_eq_true rfl)) dX10_peekName_1 ⟨Nat.zero_le _, Nat.zero_le _⟩) hh.1 (fun q _ h => h) (fun q h => h) (fun r_2 u_1 t_1 H_1 locs_1 ht_1 hvm_1 hr_2 hb_1 hz_1 hk_1 hS_1 => ?_)
  rw [ht_1] at hb_1
  obtain ⟨hb_11, hb_12, hb_13, hb_14, hb_15⟩ := hb_1
  have hh_1 : jSt (dC, dI) B base G0 G0 EX10_peekNameB s.heap 0 0 [(r0, 12, 3, .int tk), (r0, 12, 4, .int pa)] [] [] H_1 locs_1 := ((hh.call hb_11 hb_12 hb_13 hb_14 hS_1 rfl (L1 := [(r0, 12, 3, .int tk), (r0, 12, 4, .int pa)]) [0, 1] rfl rfl (M1 := []) [] rfl rfl (I1 := []) [] rfl rfl).more hb_15)
  clear hh ht_1 hvm_1 hz_1 hk_1 hS_1 hb_11 hb_12 hb_13 hb_14 hb_15
  refine lv_bipush (v := 110) hx hb dX10_peekName_4 (by decide) ?_
  refine lv_icmp_ne (tgt := 21) hx hb dX10_peekName_6 (by decide) (fun c_3 => ?_) (fun c_3 => ?_)
  · skip
    have c_3' : r_2.toInt ≠ 110 := jb_ne (rfl) ((by decide)) c_3
    try clear hr_2
    refine lv_iconst (v := (-1)) hx hb dX10_peekName_21 (by decide) ?_
    rw [hQ]
    exact W.iret (v := (-1)) hx hb hr (fun t ht hW => ⟨⟨(-1), (), rfl, by first | omega | (refine ⟨?_, ?_, ?_⟩ <;> (first | omega | rfl | assumption | decide | exact Or.inl rfl | exact Or.inr rfl | (simp only; omega))), hh_1.rt (M1 := []) [] rfl ht⟩, by rw [ht]; try exact hh_1.1.1, fun q h9 hq => by rw [ht]; try exact hh_1.1.2.1 q h9 hq⟩) hh_1.1.2.2 dX10_peekName_22
  · skip
    have c_3' : r_2.toInt = 110 := jb_ne_n (rfl) ((by decide)) c_3
    first | (have hr_2q := hr_2.resolve_left (by omega); clear hr_2) | (have hr_2q := hr_2.resolve_right (by omega); clear hr_2) | try clear hr_2
    refine lv_aload_n hx hb dX10_peekName_9 rfl (lv_at hl 0 rfl) ?_
    obtain ⟨v_4, hv_4, hh_5⟩ := hh_1.pin (C := RX10) (T := TX10) (N := 11) hB12 rfl (by decide) hg_r0 (i := 2) (by decide) rfl
    clear hh_1
    obtain ⟨values_6, rfl, hg_values_6⟩ := hv_4
    refine j7_read hx hb hown hK (C := RX10) (T := TX10) (N := 11) rfl hly_12_2 hlk_15 (hh_5.at 0 rfl) dX10_peekName_10 ?_
    refine lv_aload_n hx hb dX10_peekName_13 rfl (lv_at hl 0 rfl) ?_
    refine j7_read hx hb hown hK (C := RX10) (T := TX10) (N := 11) rfl hly_12_4 hlk_83 (hh_5.at 2 rfl) dX10_peekName_14 ?_
    refine j7_iald hx hb hK hh_5 hB293 1 rfl (by decide) hg_values_6 (x := pa.toInt) (rfl) (by omega) dX10_peekName_17 (fun z_7 (hz_7 : -1 ≤ z_7.toInt ∧ z_7.toInt ≤ 8191) => ?_)
    refine lv_goto (tgt := 22) hx hb dX10_peekName_18 (by decide) ?_
    rw [hQ]
    exact W.iret (v := z_7) hx hb hr (fun t ht hW => ⟨⟨z_7, (), rfl, by first | omega | (refine ⟨?_, ?_, ?_⟩ <;> (first | omega | rfl | assumption | decide | exact Or.inl rfl | exact Or.inr rfl | (simp only; omega))), hh_5.rt (M1 := []) [] rfl ht⟩, by rw [ht]; try exact hh_5.1.1, fun q h9 hq => by rw [ht]; try exact hh_5.1.2.1 q h9 hq⟩) hh_5.1.2.2 dX10_peekName_22
set_option maxHeartbeats 4000000 in
set_option maxRecDepth 20000 in
theorem uX10_isSignB (l : Launch) (dC : Nat → ClassId) (dI : Nat → Nat → Nat) (ca : Nat → ClassId) (base : Nat) (B : jF) (hB : jBok B) (hAp : jAp (dC, dI)) (hB12 : ∀ n G a H, B 12 n G a H ↔ jOb (dC, dI) 12 11 (F12b n G) a H) (hB101 : ∀ n G a H, B 101 n G a H ↔ jAr (dC, dI) (ca 1) (fun j z => True) n a H) (G0 : jT) (H0 : Heap) (r0 : Nat) (a1 : Int32) (tk : Int32) (pa : Int32) : Met l yX10_isSign (jw yX10_isSign cX10_isSign 3 (some .boolean)) ({ frames := 0, cells := 0, slots := 0, locals := 0 }) (va_Pc [.ref r0, .int a1] (fun U => U.heap = H0 ∧ jX B base G0 [] H0 ∧ jG dC dI ca base U ∧ G0 r0 = some (12, 0) ∧ jP (dC, dI) G0 H0 [(r0, 12, 3, .int tk), (r0, 12, 4, .int pa)] ∧ 0 ≤ tk.toInt ∧ tk.toInt ≤ 1500 ∧ 0 ≤ pa.toInt ∧ pa.toInt ≤ 1503 ∧ pa.toInt ≤ tk.toInt + 2)) (va_Qi (S := Int32) (fun r u => (r = 0 ∨ r = 1) ∧ (u.toInt = pa.toInt + 1 ∧ (r.toInt = 0 ∨ pa.toInt < tk.toInt))) (fun u t => jRt (dC, dI) B base G0 EX10_isSignB H0 [(r0, 12, 4, .int u)] t.heap) (jA base)) 0 0 (jA base) := by
  refine Met.ofW (cc := cX10_isSign) (maxL := 3) (ret := (some .boolean)) (by decide) rfl ?_
  intro p e s m args below meth c s₁ Bd hml hv
  obtain ⟨rfl, hH0, hX, hG, hg_r0, hP0, hp0, hp1, hp2, hp3, hp4⟩ := hv
  have hK := hG.1
  have hx := Bd.exec
  have hb := Bd.bytes
  have hr := Bd.returns
  have hts := atoms_spec (ws := (jw yX10_isSign cX10_isSign 3 (some .boolean))) Bd.pre
  have htw : ∀ w ∈ jWl, w.before _ s = true := fun w h => hts w (List.mem_cons_of_mem _ h)
  have hown : s.vm.findClass RX10 = some m.cls := findClass_of_methodNamed Bd.named
  have hlocks := Bd.notSynchronized
  obtain ⟨Q, hQ⟩ : ∃ Q, Q = MQ below (va_Qi (S := Int32) (fun r u => (r = 0 ∨ r = 1) ∧ (u.toInt = pa.toInt + 1 ∧ (r.toInt = 0 ∨ pa.toInt < tk.toInt))) (fun u t => jRt (dC, dI) B base G0 EX10_isSignB H0 [(r0, 12, 4, .int u)] t.heap) (jA base)) ([.ref r0, .int a1] : List Value).toArray s 0 0 (jA base) := ⟨_, rfl⟩
  rw [← hQ]
  have hl := lv_entry ([.ref r0, .int a1]) (n := 3) (Nat.le_of_ble_eq_true rfl)
  rw [lg_entry_eq]
  generalize (lg_sl ([.ref r0, .int a1]) ++ List.replicate (3 - (lg_sl ([.ref r0, .int a1])).length) Slot.unset).toArray = ls at hl ⊢
  have hl : lv_has ls 3 [(0, .ref r0), (1, .int a1)] := hl
  generalize hR : (headSpec (jw yX10_isSign cX10_isSign 3 (some .boolean)) ({ frames := 0, cells := 0, slots := 0, locals := 0 })).room = R
  subst hH0
  have hh : jSt (dC, dI) B base G0 G0 EX10_isSignB s.heap 0 0 [(r0, 12, 3, .int tk), (r0, 12, 4, .int pa)] [] [] s.heap [] := jSt.start hX hP0 jMc.nil jIs.nil
  clear hX hP0
  have hk0 : (0 : Int32).toInt = 0 := by decide
  have hk1 : (1 : Int32).toInt = 1 := by decide
  have hk1500 : (1500 : Int32).toInt = 1500 := by decide
  have hly_12_1 := htw (u_lay RX10 TX10 1) (jWc_wsX100 _ (u_in_lay (by decide)))
  have hly_12_3 := htw (u_lay RX10 TX10 3) (jWc_wsX100 _ (u_in_lay (by decide)))
  have hly_12_4 := htw (u_lay RX10 TX10 4) (jWc_wsX100 _ (u_in_lay (by decide)))
  have hlk_83 := (htw (.fieldLink RX10 83 "ProofServer$Syntax" "at" "I") (jWr_79 _ (List.mem_of_getElem? (i := 5) rfl)))
  have hlk_28 := (htw (.fieldLink RX10 28 "ProofServer$Syntax" "tokens" "I") (jWr_36 _ (List.mem_of_getElem? (i := 23) rfl)))
  have hlk_9 := (htw (.fieldLink RX10 9 "ProofServer$Syntax" "kinds" "[I") (jWr_8 _ (List.mem_of_getElem? (i := 8) rfl)))
  have hrg_a1 := jb_rng a1
  refine lv_aload_n hx hb dX10_isSign_0 rfl (lv_at hl 0 rfl) ?_
  refine j7_read hx hb hown hK (C := RX10) (T := TX10) (N := 11) rfl hly_12_4 hlk_83 (hh.at 1 rfl) dX10_isSign_1 ?_
  refine lv_aload_n hx hb dX10_isSign_4 rfl (lv_at hl 0 rfl) ?_
  refine j7_read hx hb hown hK (C := RX10) (T := TX10) (N := 11) rfl hly_12_3 hlk_28 (hh.at 0 rfl) dX10_isSign_5 ?_
  refine lv_icmp_ge (tgt := 38) hx hb dX10_isSign_8 (by decide) (fun c_1 => ?_) (fun c_1 => ?_)
  · skip
    have c_1' : pa.toInt ≥ tk.toInt := jb_ge (rfl) (rfl) c_1
    refine lv_iconst (v := 0) hx hb dX10_isSign_38 (by decide) ?_
    refine lv_istore_n (lv' := [(2, .int 0), (0, .ref r0), (1, .int a1)]) hx hb dX10_isSign_39 rfl hl (by decide) rfl (fun ls hl => ?_)
    refine lv_aload_n hx hb dX10_isSign_40 rfl (lv_at hl 1 rfl) ?_
    refine lv_dup hx hb dX10_isSign_41 rfl ?_
    refine j7_read hx hb hown hK (C := RX10) (T := TX10) (N := 11) rfl hly_12_4 hlk_83 (hh.at 1 rfl) dX10_isSign_42 ?_
    refine lv_iconst (v := 1) hx hb dX10_isSign_45 (by decide) ?_
    refine lv_iadd hx hb dX10_isSign_46 ?_
    refine lv_topi (fun z_2 ez_2 => ?_)
    have hz_2 : z_2.toInt = pa.toInt + 1 := by rw [ez_2]; exact jb_iadd2 (rfl) ((by decide)) (by omega)
    refine j7_put hx hb hown hK hh hB hAp hB12 (C := RX10) (T := TX10) (N := 11) rfl (by decide) hg_r0 (i := 4) (by decide) hly_12_4 rfl hlk_83 rfl (ty := .int) (v := .int z_2) (by decide +kernel) rfl rfl (⟨_, rfl, by omega, by omega⟩) rfl (L1 := [(r0, 12, 3, .int tk)]) [0] rfl rfl rfl dX10_isSign_47 (fun H_3 locs_3 hh_3 => ?_)
    clear hh
    refine lv_iload_n hx hb dX10_isSign_50 rfl (lv_at hl 0 rfl) ?_
    rw [hQ]
    exact W.zret (v := 0) hx hb hr (jb_nz (Or.inl rfl)) (fun t ht hW => ⟨⟨0, z_2, rfl, ⟨(Or.inl rfl), by first | omega | (refine ⟨?_, ?_⟩ <;> (first | omega | rfl | assumption | decide | exact Or.inl rfl | exact Or.inr rfl | (simp only; omega)))⟩, hh_3.rt (M1 := [(r0, 12, 4, .int z_2)]) [0] rfl ht⟩, by rw [ht]; try exact hh_3.1.1, fun q h9 hq => by rw [ht]; try exact hh_3.1.2.1 q h9 hq⟩) hh_3.1.2.2 dX10_isSign_51
  · skip
    have c_1' : pa.toInt < tk.toInt := jb_ge_n (rfl) (rfl) c_1
    refine lv_aload_n hx hb dX10_isSign_11 rfl (lv_at hl 0 rfl) ?_
    refine j7_read hx hb hown hK (C := RX10) (T := TX10) (N := 11) rfl hly_12_4 hlk_83 (hh.at 1 rfl) dX10_isSign_12 ?_
    refine lv_sipush (v := 1500) hx hb dX10_isSign_15 (by decide) ?_
    refine lv_icmp_ge (tgt := 38) hx hb dX10_isSign_18 (by decide) (fun c_4 => ?_) (fun c_4 => ?_)
    · skip
      have c_4' : pa.toInt ≥ 1500 := jb_ge (rfl) ((by decide)) c_4
      refine lv_iconst (v := 0) hx hb dX10_isSign_38 (by decide) ?_
      refine lv_istore_n (lv' := [(2, .int 0), (0, .ref r0), (1, .int a1)]) hx hb dX10_isSign_39 rfl hl (by decide) rfl (fun ls hl => ?_)
      refine lv_aload_n hx hb dX10_isSign_40 rfl (lv_at hl 1 rfl) ?_
      refine lv_dup hx hb dX10_isSign_41 rfl ?_
      refine j7_read hx hb hown hK (C := RX10) (T := TX10) (N := 11) rfl hly_12_4 hlk_83 (hh.at 1 rfl) dX10_isSign_42 ?_
      refine lv_iconst (v := 1) hx hb dX10_isSign_45 (by decide) ?_
      refine lv_iadd hx hb dX10_isSign_46 ?_
      refine lv_topi (fun z_5 ez_5 => ?_)
      have hz_5 : z_5.toInt = pa.toInt + 1 := by rw [ez_5]; exact jb_iadd2 (rfl) ((by decide)) (by omega)
      refine j7_put hx hb hown hK hh hB hAp hB12 (C := RX10) (T := TX10) (N := 11) rfl (by decide) hg_r0 (i := 4) (by decide) hly_12_4 rfl hlk_83 rfl (ty := .int) (v := .int z_5) (by decide +kernel) rfl rfl (⟨_, rfl, by omega, by omega⟩) rfl (L1 := [(r0, 12, 3, .int tk)]) [0] rfl rfl rfl dX10_isSign_47 (fun H_6 locs_6 hh_6 => ?_)
      clear hh
      refine lv_iload_n hx hb dX10_isSign_50 rfl (lv_at hl 0 rfl) ?_
      rw [hQ]
      exact W.zret (v := 0) hx hb hr (jb_nz (Or.inl rfl)) (fun t ht hW => ⟨⟨0, z_5, rfl, ⟨(Or.inl rfl), by first | omega | (refine ⟨?_, ?_⟩ <;> (first | omega | rfl | assumption | decide | exact Or.inl rfl | exact Or.inr rfl | (simp only; omega)))⟩, hh_6.rt (M1 := [(r0, 12, 4, .int z_5)]) [0] rfl ht⟩, by rw [ht]; try exact hh_6.1.1, fun q h9 hq => by rw [ht]; try exact hh_6.1.2.1 q h9 hq⟩) hh_6.1.2.2 dX10_isSign_51
    · skip
      have c_4' : pa.toInt < 1500 := jb_ge_n (rfl) ((by decide)) c_4
      refine lv_aload_n hx hb dX10_isSign_21 rfl (lv_at hl 0 rfl) ?_
      obtain ⟨v_7, hv_7, hh_8⟩ := hh.pin (C := RX10) (T := TX10) (N := 11) hB12 rfl (by decide) hg_r0 (i := 1) (by decide) rfl
      clear hh
      obtain ⟨kinds_9, rfl, hg_kinds_9⟩ := hv_7
      refine j7_read hx hb hown hK (C := RX10) (T := TX10) (N := 11) rfl hly_12_1 hlk_9 (hh_8.at 0 rfl) dX10_isSign_22 ?_
      refine lv_aload_n hx hb dX10_isSign_25 rfl (lv_at hl 0 rfl) ?_
      refine j7_read hx hb hown hK (C := RX10) (T := TX10) (N := 11) rfl hly_12_4 hlk_83 (hh_8.at 2 rfl) dX10_isSign_26 ?_
      refine j7_iald hx hb hK hh_8 hB101 1 rfl (by decide) hg_kinds_9 (x := pa.toInt) (rfl) (by omega) dX10_isSign_29 (fun z_10 (hz_10 : True) => ?_)
      refine lv_iload_n hx hb dX10_isSign_30 rfl (lv_at hl 1 rfl) ?_
      refine lv_icmp_ne (tgt := 38) hx hb dX10_isSign_31 (by decide) (fun c_11 => ?_) (fun c_11 => ?_)
      · skip
        have c_11' : z_10.toInt ≠ a1.toInt := jb_ne (rfl) (rfl) c_11
        refine lv_iconst (v := 0) hx hb dX10_isSign_38 (by decide) ?_
        refine lv_istore_n (lv' := [(2, .int 0), (0, .ref r0), (1, .int a1)]) hx hb dX10_isSign_39 rfl hl (by decide) rfl (fun ls hl => ?_)
        refine lv_aload_n hx hb dX10_isSign_40 rfl (lv_at hl 1 rfl) ?_
        refine lv_dup hx hb dX10_isSign_41 rfl ?_
        refine j7_read hx hb hown hK (C := RX10) (T := TX10) (N := 11) rfl hly_12_4 hlk_83 (hh_8.at 2 rfl) dX10_isSign_42 ?_
        refine lv_iconst (v := 1) hx hb dX10_isSign_45 (by decide) ?_
        refine lv_iadd hx hb dX10_isSign_46 ?_
        refine lv_topi (fun z_12 ez_12 => ?_)
        have hz_12 : z_12.toInt = pa.toInt + 1 := by rw [ez_12]; exact jb_iadd2 (rfl) ((by decide)) (by omega)
        refine j7_put hx hb hown hK hh_8 hB hAp hB12 (C := RX10) (T := TX10) (N := 11) rfl (by decide) hg_r0 (i := 4) (by decide) hly_12_4 rfl hlk_83 rfl (ty := .int) (v := .int z_12) (by decide +kernel) rfl rfl (⟨_, rfl, by omega, by omega⟩) rfl (L1 := [(r0, 12, 1, .ref kinds_9), (r0, 12, 3, .int tk)]) [0, 1] rfl rfl rfl dX10_isSign_47 (fun H_13 locs_13 hh_13 => ?_)
        clear hh_8
        refine lv_iload_n hx hb dX10_isSign_50 rfl (lv_at hl 0 rfl) ?_
        rw [hQ]
        exact W.zret (v := 0) hx hb hr (jb_nz (Or.inl rfl)) (fun t ht hW => ⟨⟨0, z_12, rfl, ⟨(Or.inl rfl), by first | omega | (refine ⟨?_, ?_⟩ <;> (first | omega | rfl | assumption | decide | exact Or.inl rfl | exact Or.inr rfl | (simp only; omega)))⟩, hh_13.rt (M1 := [(r0, 12, 4, .int z_12)]) [0] rfl ht⟩, by rw [ht]; try exact hh_13.1.1, fun q h9 hq => by rw [ht]; try exact hh_13.1.2.1 q h9 hq⟩) hh_13.1.2.2 dX10_isSign_51
      · skip
        have c_11' : z_10.toInt = a1.toInt := jb_ne_n (rfl) (rfl) c_11
        refine lv_iconst (v := 1) hx hb dX10_isSign_34 (by decide) ?_
        refine lv_goto (tgt := 39) hx hb dX10_isSign_35 (by decide) ?_
        refine lv_istore_n (lv' := [(2, .int 1), (0, .ref r0), (1, .int a1)]) hx hb dX10_isSign_39 rfl hl (by decide) rfl (fun ls hl => ?_)
        refine lv_aload_n hx hb dX10_isSign_40 rfl (lv_at hl 1 rfl) ?_
        refine lv_dup hx hb dX10_isSign_41 rfl ?_
        refine j7_read hx hb hown hK (C := RX10) (T := TX10) (N := 11) rfl hly_12_4 hlk_83 (hh_8.at 2 rfl) dX10_isSign_42 ?_
        refine lv_iconst (v := 1) hx hb dX10_isSign_45 (by decide) ?_
        refine lv_iadd hx hb dX10_isSign_46 ?_
        refine lv_topi (fun z_14 ez_14 => ?_)
        have hz_14 : z_14.toInt = pa.toInt + 1 := by rw [ez_14]; exact jb_iadd2 (rfl) ((by decide)) (by omega)
        refine j7_put hx hb hown hK hh_8 hB hAp hB12 (C := RX10) (T := TX10) (N := 11) rfl (by decide) hg_r0 (i := 4) (by decide) hly_12_4 rfl hlk_83 rfl (ty := .int) (v := .int z_14) (by decide +kernel) rfl rfl (⟨_, rfl, by omega, by omega⟩) rfl (L1 := [(r0, 12, 1, .ref kinds_9), (r0, 12, 3, .int tk)]) [0, 1] rfl rfl rfl dX10_isSign_47 (fun H_15 locs_15 hh_15 => ?_)
        clear hh_8
        refine lv_iload_n hx hb dX10_isSign_50 rfl (lv_at hl 0 rfl) ?_
        rw [hQ]
        exact W.zret (v := 1) hx hb hr (jb_nz (Or.inr rfl)) (fun t ht hW => ⟨⟨1, z_14, rfl, ⟨(Or.inr rfl), by first | omega | (refine ⟨?_, ?_⟩ <;> (first | omega | rfl | assumption | decide | exact Or.inl rfl | exact Or.inr rfl | (simp only; omega)))⟩, hh_15.rt (M1 := [(r0, 12, 4, .int z_14)]) [0] rfl ht⟩, by rw [ht]; try exact hh_15.1.1, fun q h9 hq => by rw [ht]; try exact hh_15.1.2.1 q h9 hq⟩) hh_15.1.2.2 dX10_isSign_51
set_option maxHeartbeats 4000000 in
set_option maxRecDepth 20000 in
theorem uX10_isNameB (l : Launch) (dC : Nat → ClassId) (dI : Nat → Nat → Nat) (ca : Nat → ClassId) (base : Nat) (B : jF) (hB : jBok B) (hAp : jAp (dC, dI)) (hB12 : ∀ n G a H, B 12 n G a H ↔ jOb (dC, dI) 12 11 (F12b n G) a H) (hB101 : ∀ n G a H, B 101 n G a H ↔ jAr (dC, dI) (ca 1) (fun j z => True) n a H) (hB292 : ∀ n G a H, B 292 n G a H ↔ jAr (dC, dI) (ca 1) (fun j z => 0 ≤ z.toInt ∧ z.toInt ≤ 8191) n a H) (hB293 : ∀ n G a H, B 293 n G a H ↔ jAr (dC, dI) (ca 1) (fun j z => -1 ≤ z.toInt ∧ z.toInt ≤ 8191) n a H) (G0 : jT) (H0 : Heap) (r0 : Nat) (tk : Int32) (pa : Int32) : Met l yX10_isName (jw yX10_isName cX10_isName 2 (some .boolean)) ({ frames := 2, cells := 0, slots := 0, locals := 40 }) (va_Pc [.ref r0] (fun U => U.heap = H0 ∧ jX B base G0 [] H0 ∧ jG dC dI ca base U ∧ G0 r0 = some (12, 0) ∧ jP (dC, dI) G0 H0 [(r0, 12, 3, .int tk), (r0, 12, 4, .int pa)] ∧ 0 ≤ tk.toInt ∧ tk.toInt ≤ 1500 ∧ 0 ≤ pa.toInt ∧ pa.toInt ≤ 1503 ∧ pa.toInt ≤ tk.toInt + 2)) (va_Qi (S := Int32) (fun r u => (r = 0 ∨ r = 1) ∧ (u.toInt = pa.toInt + 1 ∧ (r.toInt = 0 ∨ pa.toInt < tk.toInt))) (fun u t => jRt (dC, dI) B base G0 EX10_isNameB H0 [(r0, 12, 4, .int u)] t.heap) (jA base)) 0 0 (jA base) := by
  refine Met.ofW (cc := cX10_isName) (maxL := 2) (ret := (some .boolean)) (by decide) rfl ?_
  intro p e s m args below meth c s₁ Bd hml hv
  obtain ⟨rfl, hH0, hX, hG, hg_r0, hP0, hp0, hp1, hp2, hp3, hp4⟩ := hv
  have hK := hG.1
  have hx := Bd.exec
  have hb := Bd.bytes
  have hr := Bd.returns
  have hts := atoms_spec (ws := (jw yX10_isName cX10_isName 2 (some .boolean))) Bd.pre
  have htw : ∀ w ∈ jWl, w.before _ s = true := fun w h => hts w (List.mem_cons_of_mem _ h)
  have hown : s.vm.findClass RX10 = some m.cls := findClass_of_methodNamed Bd.named
  have hlocks := Bd.notSynchronized
  obtain ⟨Q, hQ⟩ : ∃ Q, Q = MQ below (va_Qi (S := Int32) (fun r u => (r = 0 ∨ r = 1) ∧ (u.toInt = pa.toInt + 1 ∧ (r.toInt = 0 ∨ pa.toInt < tk.toInt))) (fun u t => jRt (dC, dI) B base G0 EX10_isNameB H0 [(r0, 12, 4, .int u)] t.heap) (jA base)) ([.ref r0] : List Value).toArray s 0 0 (jA base) := ⟨_, rfl⟩
  rw [← hQ]
  have hl := lv_entry ([.ref r0]) (n := 2) (Nat.le_of_ble_eq_true rfl)
  rw [lg_entry_eq]
  generalize (lg_sl ([.ref r0]) ++ List.replicate (2 - (lg_sl ([.ref r0])).length) Slot.unset).toArray = ls at hl ⊢
  have hl : lv_has ls 2 [(0, .ref r0)] := hl
  generalize hR : (headSpec (jw yX10_isName cX10_isName 2 (some .boolean)) ({ frames := 2, cells := 0, slots := 0, locals := 40 })).room = R
  subst hH0
  have hh : jSt (dC, dI) B base G0 G0 EX10_isNameB s.heap 0 0 [(r0, 12, 3, .int tk), (r0, 12, 4, .int pa)] [] [] s.heap [] := jSt.start hX hP0 jMc.nil jIs.nil
  clear hX hP0
  have hk0 : (0 : Int32).toInt = 0 := by decide
  have hk1 : (1 : Int32).toInt = 1 := by decide
  have hk2 : (2 : Int32).toInt = 2 := by decide
  have hly_12_4 := htw (u_lay RX10 TX10 4) (jWc_wsX100 _ (u_in_lay (by decide)))
  have hly_12_6 := htw (u_lay RX10 TX10 6) (jWc_wsX100 _ (u_in_lay (by decide)))
  have hly_12_7 := htw (u_lay RX10 TX10 7) (jWc_wsX100 _ (u_in_lay (by decide)))
  have hlk_83 := (htw (.fieldLink RX10 83 "ProofServer$Syntax" "at" "I") (jWr_79 _ (List.mem_of_getElem? (i := 5) rfl)))
  have hlk_86 := (htw (.fieldLink RX10 86 "ProofServer$Syntax" "toldCount" "I") (jWr_79 _ (List.mem_of_getElem? (i := 6) rfl)))
  have hlk_18 := (htw (.fieldLink RX10 18 "ProofServer$Syntax" "told" "[I") (jWr_8 _ (List.mem_of_getElem? (i := 10) rfl)))
  refine lv_aload_n hx hb dX10_isName_0 rfl (lv_at hl 0 rfl) ?_
  refine va_calli (A0 := jA base) (H0 := s.heap) (va_runV (As := []) (rest := []) ⟨hx, hb, hml, hown, hts⟩ (uX10_peekNameB l dC dI ca base B hB hAp hB12 hB101 hB293 G0 s.heap r0 tk pa) (cwV 0 hts (jgV (jWr_79 _ (List.mem_of_getElem? (i := 14) rfl)) (jWr_79 _ (List.mem_of_getElem? (i := 15) rfl)) (jWr_79 _ (List.mem_of_getElem? (i := 16) rfl)) (jWr_4 _ (List.mem_of_getElem? (i := 14) rfl)) (jWr_79 _ (List.mem_of_getElem? (i := 17) rfl))) rfl rfl rfl (by decide +kernel) ⟨by rw [← hR]; exact Nat.le_of_ble_eq_true rfl, by rw [← hR]; exact Nat.le_of_ble_eq_true rfl⟩) ⟨fun a U g mk q => by obtain ⟨q0, q1, q2, qK, q10, q11, q12⟩ := q; exact ⟨q0, q1, q2, jG.calling g mk a qK, q10, q11, q12⟩, hh.recv (C := RX10) (T := TX10) (N := 11) hB12 rfl (by decide) hg_r0 hK, fun U hU hW => ⟨rfl, hU, hh.2.1, hG.step hW hU hh.1, hg_r0, (hh.2.2.1.sub (L1 := [(r0, 12, 3, .int tk), (r0, 12, 4, .int pa)]) [0, 1] rfl), by first | omega | (refine ⟨?_, ?_, ?_, ?_⟩ <;> (first | omega | rfl | assumption | decide | exact Or.inl rfl | exact Or.inr rfl | (simp only; omega)))⟩⟩ rfl rfl hl.1 rfl (lv_room (Nat.le_of_ble_eq_true rfl)) dX10_isName_1 ⟨Nat.zero_le _, Nat.zero_le _⟩) hh.1 (fun q _ h => h) (fun q h => h) (fun r_2 u_1 t_1 H_1 locs_1 ht_1 hvm_1 hr_2 hb_1 hz_1 hk_1 hS_1 => ?_)
  rw [ht_1] at hb_1
  obtain ⟨hb_11, hb_12, hb_13, hb_14, hb_15⟩ := hb_1
  have hh_1 : jSt (dC, dI) B base G0 G0 EX10_isNameB s.heap 0 0 [(r0, 12, 3, .int tk), (r0, 12, 4, .int pa)] [] [] H_1 locs_1 := ((hh.call hb_11 hb_12 hb_13 hb_14 hS_1 rfl (L1 := [(r0, 12, 3, .int tk), (r0, 12, 4, .int pa)]) [0, 1] rfl rfl (M1 := []) [] rfl rfl (I1 := []) [] rfl rfl).more hb_15)
  clear hh ht_1 hvm_1 hz_1 hk_1 hS_1 hb_11 hb_12 hb_13 hb_14 hb_15
  obtain ⟨hr_2_0, hr_2_1, hr_2_2⟩ := hr_2
  refine lv_istore_n (lv' := [(1, .int r_2), (0, .ref r0)]) hx hb dX10_isName_4 rfl hl (by decide) rfl (fun ls hl => ?_)
  refine lv_aload_n hx hb dX10_isName_5 rfl (lv_at hl 1 rfl) ?_
  refine lv_dup hx hb dX10_isName_6 rfl ?_
  refine j7_read hx hb hown hK (C := RX10) (T := TX10) (N := 11) rfl hly_12_4 hlk_83 (hh_1.at 1 rfl) dX10_isName_7 ?_
  refine lv_iconst (v := 1) hx hb dX10_isName_10 (by decide) ?_
  refine lv_iadd hx hb dX10_isName_11 ?_
  refine lv_topi (fun z_3 ez_3 => ?_)
  have hz_3 : z_3.toInt = pa.toInt + 1 := by rw [ez_3]; exact jb_iadd2 (rfl) ((by decide)) (by omega)
  refine j7_put hx hb hown hK hh_1 hB hAp hB12 (C := RX10) (T := TX10) (N := 11) rfl (by decide) hg_r0 (i := 4) (by decide) hly_12_4 rfl hlk_83 rfl (ty := .int) (v := .int z_3) (by decide +kernel) rfl rfl (⟨_, rfl, by omega, by omega⟩) rfl (L1 := [(r0, 12, 3, .int tk)]) [0] rfl rfl rfl dX10_isName_12 (fun H_4 locs_4 hh_4 => ?_)
  clear hh_1
  refine lv_iload_n hx hb dX10_isName_15 rfl (lv_at hl 0 rfl) ?_
  refine lv_iconst (v := 2) hx hb dX10_isName_16 (by decide) ?_
  refine lv_icmp_le (tgt := 32) hx hb dX10_isName_17 (by decide) (fun c_5 => ?_) (fun c_5 => ?_)
  · skip
    have c_5' : r_2.toInt ≤ 2 := jb_le (rfl) ((by decide)) c_5
    first | (have hr_2_0q := hr_2_0.resolve_left (by omega); clear hr_2_0) | (have hr_2_0q := hr_2_0.resolve_right (by omega); clear hr_2_0) | skip
    refine lv_iconst (v := 0) hx hb dX10_isName_32 (by decide) ?_
    rw [hQ]
    exact W.zret (v := 0) hx hb hr (jb_nz (Or.inl rfl)) (fun t ht hW => ⟨⟨0, z_3, rfl, ⟨(Or.inl rfl), by first | omega | (refine ⟨?_, ?_⟩ <;> (first | omega | rfl | assumption | decide | exact Or.inl rfl | exact Or.inr rfl | (simp only; omega)))⟩, hh_4.rt (M1 := [(r0, 12, 4, .int z_3)]) [0] rfl ht⟩, by rw [ht]; try exact hh_4.1.1, fun q h9 hq => by rw [ht]; try exact hh_4.1.2.1 q h9 hq⟩) hh_4.1.2.2 dX10_isName_33
  · skip
    have c_5' : r_2.toInt > 2 := jb_le_n (rfl) ((by decide)) c_5
    first | (have hr_2_0q := hr_2_0.resolve_left (by omega); clear hr_2_0) | (have hr_2_0q := hr_2_0.resolve_right (by omega); clear hr_2_0) | skip
    refine lv_aload_n hx hb dX10_isName_20 rfl (lv_at hl 1 rfl) ?_
    obtain ⟨v_6, hv_6, hh_7⟩ := hh_4.pin (C := RX10) (T := TX10) (N := 11) hB12 rfl (by decide) hg_r0 (i := 7) (by decide) rfl
    clear hh_4
    obtain ⟨toldCount_8, rfl, hlotoldCount_8, hhitoldCount_8⟩ := hv_6
    refine j7_read hx hb hown hK (C := RX10) (T := TX10) (N := 11) rfl hly_12_7 hlk_86 (hh_7.at 0 rfl) dX10_isName_21 ?_
    refine lv_aload_n hx hb dX10_isName_24 rfl (lv_at hl 1 rfl) ?_
    obtain ⟨v_9, hv_9, hh_10⟩ := hh_7.pin (C := RX10) (T := TX10) (N := 11) hB12 rfl (by decide) hg_r0 (i := 6) (by decide) rfl
    clear hh_7
    obtain ⟨told_11, rfl, hg_told_11⟩ := hv_9
    refine j7_read hx hb hown hK (C := RX10) (T := TX10) (N := 11) rfl hly_12_6 hlk_18 (hh_10.at 0 rfl) dX10_isName_25 ?_
    refine j7_len hx hb hK hh_10 hB292 1 rfl (by decide) hg_told_11 (by omega) dX10_isName_28 (fun z_12 hz_12 => ?_)
    refine lv_icmp_lt (tgt := 34) hx hb dX10_isName_29 (by decide) (fun c_13 => ?_) (fun c_13 => ?_)
    · skip
      have c_13' : toldCount_8.toInt < z_12.toInt := jb_lt (rfl) (rfl) c_13
      refine lv_aload_n hx hb dX10_isName_34 rfl (lv_at hl 1 rfl) ?_
      refine j7_read hx hb hown hK (C := RX10) (T := TX10) (N := 11) rfl hly_12_6 hlk_18 (hh_10.at 0 rfl) dX10_isName_35 ?_
      refine lv_aload_n hx hb dX10_isName_38 rfl (lv_at hl 1 rfl) ?_
      refine j7_read hx hb hown hK (C := RX10) (T := TX10) (N := 11) rfl hly_12_7 hlk_86 (hh_10.at 1 rfl) dX10_isName_39 ?_
      refine lv_iload_n hx hb dX10_isName_42 rfl (lv_at hl 0 rfl) ?_
      refine j7_iast hx hb hK hh_10 hB hB292 1 rfl (by decide) (by decide) rfl rfl rfl hg_told_11 (x := toldCount_8.toInt) (rfl) (by omega) (by first | omega | (refine ⟨?_, ?_⟩ <;> (first | omega | rfl | assumption | decide | exact Or.inl rfl | exact Or.inr rfl | (simp only; omega)))) dX10_isName_43 (fun H_14 locs_14 hh_14 => ?_)
      clear hh_10
      refine lv_aload_n hx hb dX10_isName_44 rfl (lv_at hl 1 rfl) ?_
      refine lv_dup hx hb dX10_isName_45 rfl ?_
      refine j7_read hx hb hown hK (C := RX10) (T := TX10) (N := 11) rfl hly_12_7 hlk_86 (hh_14.at 1 rfl) dX10_isName_46 ?_
      refine lv_iconst (v := 1) hx hb dX10_isName_49 (by decide) ?_
      refine lv_iadd hx hb dX10_isName_50 ?_
      refine lv_topi (fun z_15 ez_15 => ?_)
      have hz_15 : z_15.toInt = toldCount_8.toInt + 1 := by rw [ez_15]; exact jb_iadd2 (rfl) ((by decide)) (by omega)
      refine j7_put hx hb hown hK hh_14 hB hAp hB12 (C := RX10) (T := TX10) (N := 11) rfl (by decide) hg_r0 (i := 7) (by decide) hly_12_7 rfl hlk_86 rfl (ty := .int) (v := .int z_15) (by decide +kernel) rfl rfl (⟨_, rfl, by omega, by omega⟩) rfl (L1 := [(r0, 12, 6, .ref told_11), (r0, 12, 4, .int z_3), (r0, 12, 3, .int tk)]) [0, 2, 3] rfl rfl rfl dX10_isName_51 (fun H_16 locs_16 hh_16 => ?_)
      clear hh_14
      refine lv_iconst (v := 1) hx hb dX10_isName_54 (by decide) ?_
      rw [hQ]
      exact W.zret (v := 1) hx hb hr (jb_nz (Or.inr rfl)) (fun t ht hW => ⟨⟨1, z_3, rfl, ⟨(Or.inr rfl), by first | omega | (refine ⟨?_, ?_⟩ <;> (first | omega | rfl | assumption | decide | exact Or.inl rfl | exact Or.inr rfl | (simp only; omega)))⟩, hh_16.rt (M1 := [(r0, 12, 4, .int z_3)]) [2] rfl ht⟩, by rw [ht]; try exact hh_16.1.1, fun q h9 hq => by rw [ht]; try exact hh_16.1.2.1 q h9 hq⟩) hh_16.1.2.2 dX10_isName_55
    · skip
      have c_13' : toldCount_8.toInt ≥ z_12.toInt := jb_lt_n (rfl) (rfl) c_13
      refine lv_iconst (v := 0) hx hb dX10_isName_32 (by decide) ?_
      rw [hQ]
      exact W.zret (v := 0) hx hb hr (jb_nz (Or.inl rfl)) (fun t ht hW => ⟨⟨0, z_3, rfl, ⟨(Or.inl rfl), by first | omega | (refine ⟨?_, ?_⟩ <;> (first | omega | rfl | assumption | decide | exact Or.inl rfl | exact Or.inr rfl | (simp only; omega)))⟩, hh_10.rt (M1 := [(r0, 12, 4, .int z_3)]) [2] rfl ht⟩, by rw [ht]; try exact hh_10.1.1, fun q h9 hq => by rw [ht]; try exact hh_10.1.2.1 q h9 hq⟩) hh_10.1.2.2 dX10_isName_33
set_option maxHeartbeats 4000000 in
set_option maxRecDepth 20000 in
theorem uX10_isArityB (l : Launch) (dC : Nat → ClassId) (dI : Nat → Nat → Nat) (ca : Nat → ClassId) (base : Nat) (B : jF) (hB : jBok B) (hAp : jAp (dC, dI)) (hB12 : ∀ n G a H, B 12 n G a H ↔ jOb (dC, dI) 12 11 (F12b n G) a H) (hB101 : ∀ n G a H, B 101 n G a H ↔ jAr (dC, dI) (ca 1) (fun j z => True) n a H) (hB293 : ∀ n G a H, B 293 n G a H ↔ jAr (dC, dI) (ca 1) (fun j z => -1 ≤ z.toInt ∧ z.toInt ≤ 8191) n a H) (G0 : jT) (H0 : Heap) (r0 : Nat) (tk : Int32) (pa : Int32) : Met l yX10_isArity (jw yX10_isArity cX10_isArity 1 (some .boolean)) ({ frames := 1, cells := 0, slots := 0, locals := 20 }) (va_Pc [.ref r0] (fun U => U.heap = H0 ∧ jX B base G0 [] H0 ∧ jG dC dI ca base U ∧ G0 r0 = some (12, 0) ∧ jP (dC, dI) G0 H0 [(r0, 12, 3, .int tk), (r0, 12, 4, .int pa)] ∧ 0 ≤ tk.toInt ∧ tk.toInt ≤ 1500 ∧ 0 ≤ pa.toInt ∧ pa.toInt ≤ 1503 ∧ pa.toInt ≤ tk.toInt + 2)) (va_Qi (S := Int32) (fun r u => (r = 0 ∨ r = 1) ∧ (u.toInt = pa.toInt + 1 ∧ (r.toInt = 0 ∨ pa.toInt < tk.toInt))) (fun u t => jRt (dC, dI) B base G0 EX10_isArityB H0 [(r0, 12, 4, .int u)] t.heap) (jA base)) 0 0 (jA base) := by
  refine Met.ofW (cc := cX10_isArity) (maxL := 1) (ret := (some .boolean)) (by decide) rfl ?_
  intro p e s m args below meth c s₁ Bd hml hv
  obtain ⟨rfl, hH0, hX, hG, hg_r0, hP0, hp0, hp1, hp2, hp3, hp4⟩ := hv
  have hK := hG.1
  have hx := Bd.exec
  have hb := Bd.bytes
  have hr := Bd.returns
  have hts := atoms_spec (ws := (jw yX10_isArity cX10_isArity 1 (some .boolean))) Bd.pre
  have htw : ∀ w ∈ jWl, w.before _ s = true := fun w h => hts w (List.mem_cons_of_mem _ h)
  have hown : s.vm.findClass RX10 = some m.cls := findClass_of_methodNamed Bd.named
  have hlocks := Bd.notSynchronized
  obtain ⟨Q, hQ⟩ : ∃ Q, Q = MQ below (va_Qi (S := Int32) (fun r u => (r = 0 ∨ r = 1) ∧ (u.toInt = pa.toInt + 1 ∧ (r.toInt = 0 ∨ pa.toInt < tk.toInt))) (fun u t => jRt (dC, dI) B base G0 EX10_isArityB H0 [(r0, 12, 4, .int u)] t.heap) (jA base)) ([.ref r0] : List Value).toArray s 0 0 (jA base) := ⟨_, rfl⟩
  rw [← hQ]
  have hl := lv_entry ([.ref r0]) (n := 1) (Nat.le_of_ble_eq_true rfl)
  rw [lg_entry_eq]
  generalize (lg_sl ([.ref r0]) ++ List.replicate (1 - (lg_sl ([.ref r0])).length) Slot.unset).toArray = ls at hl ⊢
  have hl : lv_has ls 1 [(0, .ref r0)] := hl
  generalize hR : (headSpec (jw yX10_isArity cX10_isArity 1 (some .boolean)) ({ frames := 1, cells := 0, slots := 0, locals := 20 })).room = R
  subst hH0
  have hh : jSt (dC, dI) B base G0 G0 EX10_isArityB s.heap 0 0 [(r0, 12, 3, .int tk), (r0, 12, 4, .int pa)] [] [] s.heap [] := jSt.start hX hP0 jMc.nil jIs.nil
  clear hX hP0
  have hkm1 : ((-1) : Int32).toInt = (-1) := by decide
  have hk0 : (0 : Int32).toInt = 0 := by decide
  have hk1 : (1 : Int32).toInt = 1 := by decide
  have hk3 : (3 : Int32).toInt = 3 := by decide
  have hk100 : (100 : Int32).toInt = 100 := by decide
  have hly_12_2 := htw (u_lay RX10 TX10 2) (jWc_wsX100 _ (u_in_lay (by decide)))
  have hly_12_4 := htw (u_lay RX10 TX10 4) (jWc_wsX100 _ (u_in_lay (by decide)))
  have hly_12_8 := htw (u_lay RX10 TX10 8) (jWc_wsX100 _ (u_in_lay (by decide)))
  have hlk_15 := (htw (.fieldLink RX10 15 "ProofServer$Syntax" "values" "[I") (jWr_8 _ (List.mem_of_getElem? (i := 9) rfl)))
  have hlk_83 := (htw (.fieldLink RX10 83 "ProofServer$Syntax" "at" "I") (jWr_79 _ (List.mem_of_getElem? (i := 5) rfl)))
  have hlk_92 := (htw (.fieldLink RX10 92 "ProofServer$Syntax" "terms" "I") (jWr_79 _ (List.mem_of_getElem? (i := 8) rfl)))
  refine lv_aload_n hx hb dX10_isArity_0 rfl (lv_at hl 0 rfl) ?_
  refine lv_aload_n hx hb dX10_isArity_1 rfl (lv_at hl 0 rfl) ?_
  refine va_calli (A0 := jA base) (H0 := s.heap) (va_runV (As := []) (rest := [.ref r0]) ⟨hx, hb, hml, hown, hts⟩ (uX10_peekB l dC dI ca base B hB hAp hB12 hB101 G0 s.heap r0 tk pa) (cwV 0 hts (jgV (jWr_79 _ (List.mem_of_getElem? (i := 18) rfl)) (jWr_79 _ (List.mem_of_getElem? (i := 19) rfl)) (jWr_79 _ (List.mem_of_getElem? (i := 20) rfl)) (jWr_4 _ (List.mem_of_getElem? (i := 14) rfl)) (jWr_79 _ (List.mem_of_getElem? (i := 21) rfl))) rfl rfl rfl (by decide +kernel) ⟨by rw [← hR]; exact Nat.le_of_ble_eq_true rfl, by rw [← hR]; exact Nat.le_of_ble_eq_true rfl⟩) ⟨fun a U g mk q => by obtain ⟨q0, q1, q2, qK, q10, q11, q12⟩ := q; exact ⟨q0, q1, q2, jG.calling g mk a qK, q10, q11, q12⟩, hh.recv (C := RX10) (T := TX10) (N := 11) hB12 rfl (by decide) hg_r0 hK, fun U hU hW => ⟨rfl, hU, hh.2.1, hG.step hW hU hh.1, hg_r0, (hh.2.2.1.sub (L1 := [(r0, 12, 3, .int tk), (r0, 12, 4, .int pa)]) [0, 1] rfl), by first | omega | (refine ⟨?_, ?_, ?_, ?_⟩ <;> (first | omega | rfl | assumption | decide | exact Or.inl rfl | exact Or.inr rfl | (simp only; omega)))⟩⟩ rfl rfl hl.1 rfl (lv_room (Nat.le_of_ble_eq_true rfl)) dX10_isArity_2 ⟨Nat.zero_le _, Nat.zero_le _⟩) hh.1 (fun q _ h => h) (fun q h => h) (fun r_2 u_1 t_1 H_1 locs_1 ht_1 hvm_1 hr_2 hb_1 hz_1 hk_1 hS_1 => ?_)
  rw [ht_1] at hb_1
  obtain ⟨hb_11, hb_12, hb_13, hb_14, hb_15⟩ := hb_1
  have hh_1 : jSt (dC, dI) B base G0 G0 EX10_isArityB s.heap 0 0 [(r0, 12, 3, .int tk), (r0, 12, 4, .int pa)] [] [] H_1 locs_1 := ((hh.call hb_11 hb_12 hb_13 hb_14 hS_1 rfl (L1 := [(r0, 12, 3, .int tk), (r0, 12, 4, .int pa)]) [0, 1] rfl rfl (M1 := []) [] rfl rfl (I1 := []) [] rfl rfl).more hb_15)
  clear hh ht_1 hvm_1 hz_1 hk_1 hS_1 hb_11 hb_12 hb_13 hb_14 hb_15
  refine lv_bipush (v := 100) hx hb dX10_isArity_5 (by decide) ?_
  refine lv_icmp_ne (tgt := 22) hx hb dX10_isArity_7 (by decide) (fun c_3 => ?_) (fun c_3 => ?_)
  · skip
    have c_3' : r_2.toInt ≠ 100 := jb_ne (rfl) ((by decide)) c_3
    try clear hr_2
    refine lv_iconst (v := (-1)) hx hb dX10_isArity_22 (by decide) ?_
    refine j7_put hx hb hown hK hh_1 hB hAp hB12 (C := RX10) (T := TX10) (N := 11) rfl (by decide) hg_r0 (i := 8) (by decide) hly_12_8 rfl hlk_92 rfl (ty := .int) (v := .int (-1)) (by decide +kernel) rfl rfl (⟨_, rfl⟩) rfl (L1 := [(r0, 12, 3, .int tk), (r0, 12, 4, .int pa)]) [0, 1] rfl rfl rfl dX10_isArity_23 (fun H_4 locs_4 hh_4 => ?_)
    clear hh_1
    refine lv_aload_n hx hb dX10_isArity_26 rfl (lv_at hl 0 rfl) ?_
    refine lv_dup hx hb dX10_isArity_27 rfl ?_
    refine j7_read hx hb hown hK (C := RX10) (T := TX10) (N := 11) rfl hly_12_4 hlk_83 (hh_4.at 2 rfl) dX10_isArity_28 ?_
    refine lv_iconst (v := 1) hx hb dX10_isArity_31 (by decide) ?_
    refine lv_iadd hx hb dX10_isArity_32 ?_
    refine lv_topi (fun z_5 ez_5 => ?_)
    have hz_5 : z_5.toInt = pa.toInt + 1 := by rw [ez_5]; exact jb_iadd2 (rfl) ((by decide)) (by omega)
    refine j7_put hx hb hown hK hh_4 hB hAp hB12 (C := RX10) (T := TX10) (N := 11) rfl (by decide) hg_r0 (i := 4) (by decide) hly_12_4 rfl hlk_83 rfl (ty := .int) (v := .int z_5) (by decide +kernel) rfl rfl (⟨_, rfl, by omega, by omega⟩) rfl (L1 := [(r0, 12, 8, .int (-1)), (r0, 12, 3, .int tk)]) [0, 1] rfl rfl rfl dX10_isArity_33 (fun H_6 locs_6 hh_6 => ?_)
    clear hh_4
    refine lv_aload_n hx hb dX10_isArity_36 rfl (lv_at hl 0 rfl) ?_
    refine j7_read hx hb hown hK (C := RX10) (T := TX10) (N := 11) rfl hly_12_8 hlk_92 (hh_6.at 1 rfl) dX10_isArity_37 ?_
    refine lv_if_lt (tgt := 55) hx hb dX10_isArity_40 (by decide) (fun c_7 => ?_) (fun c_7 => ?_)
    · skip
      refine lv_iconst (v := 0) hx hb dX10_isArity_55 (by decide) ?_
      rw [hQ]
      exact W.zret (v := 0) hx hb hr (jb_nz (Or.inl rfl)) (fun t ht hW => ⟨⟨0, z_5, rfl, ⟨(Or.inl rfl), by first | omega | (refine ⟨?_, ?_⟩ <;> (first | omega | rfl | assumption | decide | exact Or.inl rfl | exact Or.inr rfl | (simp only; omega)))⟩, hh_6.rt (M1 := [(r0, 12, 4, .int z_5)]) [0] rfl ht⟩, by rw [ht]; try exact hh_6.1.1, fun q h9 hq => by rw [ht]; try exact hh_6.1.2.1 q h9 hq⟩) hh_6.1.2.2 dX10_isArity_56
    · skip
      exact absurd c_7 (by decide)
  · skip
    have c_3' : r_2.toInt = 100 := jb_ne_n (rfl) ((by decide)) c_3
    first | (have hr_2q := hr_2.resolve_left (by omega); clear hr_2) | (have hr_2q := hr_2.resolve_right (by omega); clear hr_2) | try clear hr_2
    refine lv_aload_n hx hb dX10_isArity_10 rfl (lv_at hl 0 rfl) ?_
    obtain ⟨v_8, hv_8, hh_9⟩ := hh_1.pin (C := RX10) (T := TX10) (N := 11) hB12 rfl (by decide) hg_r0 (i := 2) (by decide) rfl
    clear hh_1
    obtain ⟨values_10, rfl, hg_values_10⟩ := hv_8
    refine j7_read hx hb hown hK (C := RX10) (T := TX10) (N := 11) rfl hly_12_2 hlk_15 (hh_9.at 0 rfl) dX10_isArity_11 ?_
    refine lv_aload_n hx hb dX10_isArity_14 rfl (lv_at hl 0 rfl) ?_
    refine j7_read hx hb hown hK (C := RX10) (T := TX10) (N := 11) rfl hly_12_4 hlk_83 (hh_9.at 2 rfl) dX10_isArity_15 ?_
    refine j7_iald hx hb hK hh_9 hB293 1 rfl (by decide) hg_values_10 (x := pa.toInt) (rfl) (by omega) dX10_isArity_18 (fun z_11 (hz_11 : -1 ≤ z_11.toInt ∧ z_11.toInt ≤ 8191) => ?_)
    refine lv_goto (tgt := 23) hx hb dX10_isArity_19 (by decide) ?_
    refine j7_put hx hb hown hK hh_9 hB hAp hB12 (C := RX10) (T := TX10) (N := 11) rfl (by decide) hg_r0 (i := 8) (by decide) hly_12_8 rfl hlk_92 rfl (ty := .int) (v := .int z_11) (by decide +kernel) rfl rfl (⟨_, rfl⟩) rfl (L1 := [(r0, 12, 2, .ref values_10), (r0, 12, 3, .int tk), (r0, 12, 4, .int pa)]) [0, 1, 2] rfl rfl rfl dX10_isArity_23 (fun H_12 locs_12 hh_12 => ?_)
    clear hh_9
    refine lv_aload_n hx hb dX10_isArity_26 rfl (lv_at hl 0 rfl) ?_
    refine lv_dup hx hb dX10_isArity_27 rfl ?_
    refine j7_read hx hb hown hK (C := RX10) (T := TX10) (N := 11) rfl hly_12_4 hlk_83 (hh_12.at 3 rfl) dX10_isArity_28 ?_
    refine lv_iconst (v := 1) hx hb dX10_isArity_31 (by decide) ?_
    refine lv_iadd hx hb dX10_isArity_32 ?_
    refine lv_topi (fun z_13 ez_13 => ?_)
    have hz_13 : z_13.toInt = pa.toInt + 1 := by rw [ez_13]; exact jb_iadd2 (rfl) ((by decide)) (by omega)
    refine j7_put hx hb hown hK hh_12 hB hAp hB12 (C := RX10) (T := TX10) (N := 11) rfl (by decide) hg_r0 (i := 4) (by decide) hly_12_4 rfl hlk_83 rfl (ty := .int) (v := .int z_13) (by decide +kernel) rfl rfl (⟨_, rfl, by omega, by omega⟩) rfl (L1 := [(r0, 12, 8, .int z_11), (r0, 12, 2, .ref values_10), (r0, 12, 3, .int tk)]) [0, 1, 2] rfl rfl rfl dX10_isArity_33 (fun H_14 locs_14 hh_14 => ?_)
    clear hh_12
    refine lv_aload_n hx hb dX10_isArity_36 rfl (lv_at hl 0 rfl) ?_
    refine j7_read hx hb hown hK (C := RX10) (T := TX10) (N := 11) rfl hly_12_8 hlk_92 (hh_14.at 1 rfl) dX10_isArity_37 ?_
    refine lv_if_lt (tgt := 55) hx hb dX10_isArity_40 (by decide) (fun c_15 => ?_) (fun c_15 => ?_)
    · skip
      have c_15' : z_11.toInt < 0 := jb_lt (rfl) ((by decide)) c_15
      refine lv_iconst (v := 0) hx hb dX10_isArity_55 (by decide) ?_
      rw [hQ]
      exact W.zret (v := 0) hx hb hr (jb_nz (Or.inl rfl)) (fun t ht hW => ⟨⟨0, z_13, rfl, ⟨(Or.inl rfl), by first | omega | (refine ⟨?_, ?_⟩ <;> (first | omega | rfl | assumption | decide | exact Or.inl rfl | exact Or.inr rfl | (simp only; omega)))⟩, hh_14.rt (M1 := [(r0, 12, 4, .int z_13)]) [0] rfl ht⟩, by rw [ht]; try exact hh_14.1.1, fun q h9 hq => by rw [ht]; try exact hh_14.1.2.1 q h9 hq⟩) hh_14.1.2.2 dX10_isArity_56
    · skip
      have c_15' : z_11.toInt ≥ 0 := jb_lt_n (rfl) ((by decide)) c_15
      refine lv_aload_n hx hb dX10_isArity_43 rfl (lv_at hl 0 rfl) ?_
      refine j7_read hx hb hown hK (C := RX10) (T := TX10) (N := 11) rfl hly_12_8 hlk_92 (hh_14.at 1 rfl) dX10_isArity_44 ?_
      refine lv_iconst (v := 3) hx hb dX10_isArity_47 (by decide) ?_
      refine lv_icmp_gt (tgt := 55) hx hb dX10_isArity_48 (by decide) (fun c_16 => ?_) (fun c_16 => ?_)
      · skip
        have c_16' : z_11.toInt > 3 := jb_gt (rfl) ((by decide)) c_16
        refine lv_iconst (v := 0) hx hb dX10_isArity_55 (by decide) ?_
        rw [hQ]
        exact W.zret (v := 0) hx hb hr (jb_nz (Or.inl rfl)) (fun t ht hW => ⟨⟨0, z_13, rfl, ⟨(Or.inl rfl), by first | omega | (refine ⟨?_, ?_⟩ <;> (first | omega | rfl | assumption | decide | exact Or.inl rfl | exact Or.inr rfl | (simp only; omega)))⟩, hh_14.rt (M1 := [(r0, 12, 4, .int z_13)]) [0] rfl ht⟩, by rw [ht]; try exact hh_14.1.1, fun q h9 hq => by rw [ht]; try exact hh_14.1.2.1 q h9 hq⟩) hh_14.1.2.2 dX10_isArity_56
      · skip
        have c_16' : z_11.toInt ≤ 3 := jb_gt_n (rfl) ((by decide)) c_16
        refine lv_iconst (v := 1) hx hb dX10_isArity_51 (by decide) ?_
        refine lv_goto (tgt := 56) hx hb dX10_isArity_52 (by decide) ?_
        rw [hQ]
        exact W.zret (v := 1) hx hb hr (jb_nz (Or.inr rfl)) (fun t ht hW => ⟨⟨1, z_13, rfl, ⟨(Or.inr rfl), by first | omega | (refine ⟨?_, ?_⟩ <;> (first | omega | rfl | assumption | decide | exact Or.inl rfl | exact Or.inr rfl | (simp only; omega)))⟩, hh_14.rt (M1 := [(r0, 12, 4, .int z_13)]) [0] rfl ht⟩, by rw [ht]; try exact hh_14.1.1, fun q h9 hq => by rw [ht]; try exact hh_14.1.2.1 q h9 hq⟩) hh_14.1.2.2 dX10_isArity_56
set_option maxHeartbeats 4000000 in
set_option maxRecDepth 20000 in
theorem uX10_addNodeB (l : Launch) (dC : Nat → ClassId) (dI : Nat → Nat → Nat) (ca : Nat → ClassId) (base : Nat) (B : jF) (hB : jBok B) (hAp : jAp (dC, dI)) (hB12 : ∀ n G a H, B 12 n G a H ↔ jOb (dC, dI) 12 11 (F12b n G) a H) (hB280 : ∀ n G a H, B 280 n G a H ↔ jAr (dC, dI) (ca 1) (fun j z => -1 ≤ z.toInt) n a H) (G0 : jT) (H0 : Heap) (r0 : Nat) (a1 : Int32) (nc : Int32) (zv : Nat) (fn : Nat → Int32) : Met l yX10_addNode (jw yX10_addNode cX10_addNode 2 (some .boolean)) ({ frames := 0, cells := 0, slots := 0, locals := 0 }) (va_Pc [.ref r0, .int a1] (fun U => U.heap = H0 ∧ jX B base G0 [] H0 ∧ jG dC dI ca base U ∧ G0 r0 = some (12, 0) ∧ G0 zv = some (280, 3000) ∧ jP (dC, dI) G0 H0 [(r0, 12, 10, .int nc), (r0, 12, 9, .ref zv)] ∧ jMc (dC, dI) G0 H0 [(zv, 280, 3000, ca 1, fn)] ∧ 0 ≤ nc.toInt ∧ nc.toInt ≤ 3000 ∧ -1 ≤ a1.toInt)) (va_Qi (S := Int32 × (Nat → Int32)) (fun r u => (r = 0 ∨ r = 1) ∧ (((r.toInt = 0 ∧ u.1.toInt = nc.toInt) ∨ (u.1.toInt = nc.toInt + 1 ∧ r.toInt = 1)) ∧ u.1.toInt ≤ 3000 ∧ jKb fn u.2 nc.toInt ∧ (r.toInt = 0 ∨ jSo u.2 nc.toInt = a1.toInt))) (fun u t => jRt (dC, dI) B base G0 EX10_addNodeB H0 [(r0, 12, 10, .int u.1)] t.heap ∧ jMc (dC, dI) G0 t.heap [(zv, 280, 3000, ca 1, u.2)]) (jA base)) 0 0 (jA base) := by
  refine Met.ofW (cc := cX10_addNode) (maxL := 2) (ret := (some .boolean)) (by decide) rfl ?_
  intro p e s m args below meth c s₁ Bd hml hv
  obtain ⟨rfl, hH0, hX, hG, hg_r0, hg_zv, hP0, hM0, hp0, hp1, hp2⟩ := hv
  have hK := hG.1
  have hx := Bd.exec
  have hb := Bd.bytes
  have hr := Bd.returns
  have hts := atoms_spec (ws := (jw yX10_addNode cX10_addNode 2 (some .boolean))) Bd.pre
  have htw : ∀ w ∈ jWl, w.before _ s = true := fun w h => hts w (List.mem_cons_of_mem _ h)
  have hown : s.vm.findClass RX10 = some m.cls := findClass_of_methodNamed Bd.named
  have hlocks := Bd.notSynchronized
  obtain ⟨Q, hQ⟩ : ∃ Q, Q = MQ below (va_Qi (S := Int32 × (Nat → Int32)) (fun r u => (r = 0 ∨ r = 1) ∧ (((r.toInt = 0 ∧ u.1.toInt = nc.toInt) ∨ (u.1.toInt = nc.toInt + 1 ∧ r.toInt = 1)) ∧ u.1.toInt ≤ 3000 ∧ jKb fn u.2 nc.toInt ∧ (r.toInt = 0 ∨ jSo u.2 nc.toInt = a1.toInt))) (fun u t => jRt (dC, dI) B base G0 EX10_addNodeB H0 [(r0, 12, 10, .int u.1)] t.heap ∧ jMc (dC, dI) G0 t.heap [(zv, 280, 3000, ca 1, u.2)]) (jA base)) ([.ref r0, .int a1] : List Value).toArray s 0 0 (jA base) := ⟨_, rfl⟩
  rw [← hQ]
  have hl := lv_entry ([.ref r0, .int a1]) (n := 2) (Nat.le_of_ble_eq_true rfl)
  rw [lg_entry_eq]
  generalize (lg_sl ([.ref r0, .int a1]) ++ List.replicate (2 - (lg_sl ([.ref r0, .int a1])).length) Slot.unset).toArray = ls at hl ⊢
  have hl : lv_has ls 2 [(0, .ref r0), (1, .int a1)] := hl
  generalize hR : (headSpec (jw yX10_addNode cX10_addNode 2 (some .boolean)) ({ frames := 0, cells := 0, slots := 0, locals := 0 })).room = R
  subst hH0
  have hh : jSt (dC, dI) B base G0 G0 EX10_addNodeB s.heap 0 0 [(r0, 12, 10, .int nc), (r0, 12, 9, .ref zv)] [(zv, 280, 3000, ca 1, fn)] [] s.heap [] := jSt.start hX hP0 hM0 jIs.nil
  clear hX hP0
  have hk0 : (0 : Int32).toInt = 0 := by decide
  have hk1 : (1 : Int32).toInt = 1 := by decide
  have hk3000 : (3000 : Int32).toInt = 3000 := by decide
  have hly_12_9 := htw (u_lay RX10 TX10 9) (jWc_wsX100 _ (u_in_lay (by decide)))
  have hly_12_10 := htw (u_lay RX10 TX10 10) (jWc_wsX100 _ (u_in_lay (by decide)))
  have hlk_89 := (htw (.fieldLink RX10 89 "ProofServer$Syntax" "nodeCount" "I") (jWr_79 _ (List.mem_of_getElem? (i := 7) rfl)))
  have hlk_21 := (htw (.fieldLink RX10 21 "ProofServer$Syntax" "nodes" "[I") (jWr_8 _ (List.mem_of_getElem? (i := 11) rfl)))
  have hrg_a1 := jb_rng a1
  refine lv_aload_n hx hb dX10_addNode_0 rfl (lv_at hl 0 rfl) ?_
  refine j7_read hx hb hown hK (C := RX10) (T := TX10) (N := 11) rfl hly_12_10 hlk_89 (hh.at 0 rfl) dX10_addNode_1 ?_
  refine lv_sipush (v := 3000) hx hb dX10_addNode_4 (by decide) ?_
  refine lv_icmp_lt (tgt := 12) hx hb dX10_addNode_7 (by decide) (fun c_1 => ?_) (fun c_1 => ?_)
  · skip
    have c_1' : nc.toInt < 3000 := jb_lt (rfl) ((by decide)) c_1
    refine lv_aload_n hx hb dX10_addNode_12 rfl (lv_at hl 0 rfl) ?_
    refine j7_read hx hb hown hK (C := RX10) (T := TX10) (N := 11) rfl hly_12_9 hlk_21 (hh.at 1 rfl) dX10_addNode_13 ?_
    refine lv_aload_n hx hb dX10_addNode_16 rfl (lv_at hl 0 rfl) ?_
    refine j7_read hx hb hown hK (C := RX10) (T := TX10) (N := 11) rfl hly_12_10 hlk_89 (hh.at 0 rfl) dX10_addNode_17 ?_
    refine lv_iload_n hx hb dX10_addNode_20 rfl (lv_at hl 1 rfl) ?_
    refine j7_iastU hx hb hK hh hB hB280 1 rfl (by decide) (by decide) rfl 0 rfl (M1 := []) [] rfl rfl rfl hg_zv (x := nc.toInt) (rfl) (by omega) (by first | omega | rfl | assumption | decide | exact Or.inl rfl | exact Or.inr rfl | (simp only; omega)) dX10_addNode_21 (fun H_2 locs_2 fs_3 hv_2 ho_2 hh_2 => ?_)
    have hv_2 : jSo fs_3 (nc.toInt) = a1.toInt := by unfold jSo; rw [hv_2]; try exact rfl
    clear hh
    refine lv_aload_n hx hb dX10_addNode_22 rfl (lv_at hl 0 rfl) ?_
    refine lv_dup hx hb dX10_addNode_23 rfl ?_
    refine j7_read hx hb hown hK (C := RX10) (T := TX10) (N := 11) rfl hly_12_10 hlk_89 (hh_2.at 0 rfl) dX10_addNode_24 ?_
    refine lv_iconst (v := 1) hx hb dX10_addNode_27 (by decide) ?_
    refine lv_iadd hx hb dX10_addNode_28 ?_
    refine lv_topi (fun z_4 ez_4 => ?_)
    have hz_4 : z_4.toInt = nc.toInt + 1 := by rw [ez_4]; exact jb_iadd2 (rfl) ((by decide)) (by omega)
    refine j7_put hx hb hown hK hh_2 hB hAp hB12 (C := RX10) (T := TX10) (N := 11) rfl (by decide) hg_r0 (i := 10) (by decide) hly_12_10 rfl hlk_89 rfl (ty := .int) (v := .int z_4) (by decide +kernel) rfl rfl (⟨_, rfl, by omega, by omega⟩) rfl (L1 := [(r0, 12, 9, .ref zv)]) [1] rfl rfl rfl dX10_addNode_29 (fun H_5 locs_5 hh_5 => ?_)
    clear hh_2
    refine lv_iconst (v := 1) hx hb dX10_addNode_32 (by decide) ?_
    rw [hQ]
    exact W.zret (v := 1) hx hb hr (jb_nz (Or.inr rfl)) (fun t ht hW => ⟨⟨1, (z_4, fs_3), rfl, ⟨(Or.inr rfl), by (try dsimp only); exact ⟨by omega, by omega, jKb.put (by omega) (by omega) (by omega) ho_2, Or.inr hv_2⟩⟩, ⟨hh_5.rt (M1 := [(r0, 12, 10, .int z_4)]) [0] rfl ht, by rw [ht]; exact hh_5.2.2.2.2.2.2.2.1.sub [0] rfl⟩⟩, by rw [ht]; try exact hh_5.1.1, fun q h9 hq => by rw [ht]; try exact hh_5.1.2.1 q h9 hq⟩) hh_5.1.2.2 dX10_addNode_33
  · skip
    have c_1' : nc.toInt ≥ 3000 := jb_lt_n (rfl) ((by decide)) c_1
    refine lv_iconst (v := 0) hx hb dX10_addNode_10 (by decide) ?_
    rw [hQ]
    exact W.zret (v := 0) hx hb hr (jb_nz (Or.inl rfl)) (fun t ht hW => ⟨⟨0, (nc, fn), rfl, ⟨(Or.inl rfl), by (try dsimp only); exact ⟨by omega, by omega, jKb.rf, by omega⟩⟩, ⟨hh.rt (M1 := [(r0, 12, 10, .int nc)]) [0] rfl ht, by rw [ht]; exact hh.2.2.2.2.2.2.2.1.sub [0] rfl⟩⟩, by rw [ht]; try exact hh.1.1, fun q h9 hq => by rw [ht]; try exact hh.1.2.1 q h9 hq⟩) hh.1.2.2 dX10_addNode_11
set_option maxHeartbeats 4000000 in
set_option maxRecDepth 20000 in
theorem uX10_insertNodeB (l : Launch) (dC : Nat → ClassId) (dI : Nat → Nat → Nat) (ca : Nat → ClassId) (base : Nat) (B : jF) (hB : jBok B) (hAp : jAp (dC, dI)) (hB12 : ∀ n G a H, B 12 n G a H ↔ jOb (dC, dI) 12 11 (F12b n G) a H) (hB280 : ∀ n G a H, B 280 n G a H ↔ jAr (dC, dI) (ca 1) (fun j z => -1 ≤ z.toInt) n a H) (G0 : jT) (H0 : Heap) (r0 : Nat) (a1 : Int32) (a2 : Int32) (nc : Int32) : Met l yX10_insertNode (jw yX10_insertNode cX10_insertNode 4 (some .boolean)) ({ frames := 0, cells := 0, slots := 0, locals := 0 }) (va_Pc [.ref r0, .int a1, .int a2] (fun U => U.heap = H0 ∧ jX B base G0 [] H0 ∧ jG dC dI ca base U ∧ G0 r0 = some (12, 0) ∧ jP (dC, dI) G0 H0 [(r0, 12, 10, .int nc)] ∧ 0 ≤ nc.toInt ∧ nc.toInt ≤ 3000 ∧ -1 ≤ a2.toInt)) (va_Qi (S := Int32) (fun r u => (r = 0 ∨ r = 1) ∧ (((r.toInt = 0 ∧ u.toInt = nc.toInt) ∨ u.toInt = nc.toInt + 1) ∧ u.toInt ≤ 3000)) (fun u t => jRt (dC, dI) B base G0 EX10_insertNodeB H0 [(r0, 12, 10, .int u)] t.heap) (jA base)) 0 0 (jA base) := by
  refine Met.ofW (cc := cX10_insertNode) (maxL := 4) (ret := (some .boolean)) (by decide) rfl ?_
  intro p e s m args below meth c s₁ Bd hml hv
  obtain ⟨rfl, hH0, hX, hG, hg_r0, hP0, hp0, hp1, hp2⟩ := hv
  have hK := hG.1
  have hx := Bd.exec
  have hb := Bd.bytes
  have hr := Bd.returns
  have hts := atoms_spec (ws := (jw yX10_insertNode cX10_insertNode 4 (some .boolean))) Bd.pre
  have htw : ∀ w ∈ jWl, w.before _ s = true := fun w h => hts w (List.mem_cons_of_mem _ h)
  have hown : s.vm.findClass RX10 = some m.cls := findClass_of_methodNamed Bd.named
  have hlocks := Bd.notSynchronized
  obtain ⟨Q, hQ⟩ : ∃ Q, Q = MQ below (va_Qi (S := Int32) (fun r u => (r = 0 ∨ r = 1) ∧ (((r.toInt = 0 ∧ u.toInt = nc.toInt) ∨ u.toInt = nc.toInt + 1) ∧ u.toInt ≤ 3000)) (fun u t => jRt (dC, dI) B base G0 EX10_insertNodeB H0 [(r0, 12, 10, .int u)] t.heap) (jA base)) ([.ref r0, .int a1, .int a2] : List Value).toArray s 0 0 (jA base) := ⟨_, rfl⟩
  rw [← hQ]
  have hl := lv_entry ([.ref r0, .int a1, .int a2]) (n := 4) (Nat.le_of_ble_eq_true rfl)
  rw [lg_entry_eq]
  generalize (lg_sl ([.ref r0, .int a1, .int a2]) ++ List.replicate (4 - (lg_sl ([.ref r0, .int a1, .int a2])).length) Slot.unset).toArray = ls at hl ⊢
  have hl : lv_has ls 4 [(0, .ref r0), (1, .int a1), (2, .int a2)] := hl
  generalize hR : (headSpec (jw yX10_insertNode cX10_insertNode 4 (some .boolean)) ({ frames := 0, cells := 0, slots := 0, locals := 0 })).room = R
  subst hH0
  have hh : jSt (dC, dI) B base G0 G0 EX10_insertNodeB s.heap 0 0 [(r0, 12, 10, .int nc)] [] [] s.heap [] := jSt.start hX hP0 jMc.nil jIs.nil
  clear hX hP0
  have hk0 : (0 : Int32).toInt = 0 := by decide
  have hk1 : (1 : Int32).toInt = 1 := by decide
  have hk3000 : (3000 : Int32).toInt = 3000 := by decide
  have hly_12_9 := htw (u_lay RX10 TX10 9) (jWc_wsX100 _ (u_in_lay (by decide)))
  have hly_12_10 := htw (u_lay RX10 TX10 10) (jWc_wsX100 _ (u_in_lay (by decide)))
  have hlk_89 := (htw (.fieldLink RX10 89 "ProofServer$Syntax" "nodeCount" "I") (jWr_79 _ (List.mem_of_getElem? (i := 7) rfl)))
  have hlk_21 := (htw (.fieldLink RX10 21 "ProofServer$Syntax" "nodes" "[I") (jWr_8 _ (List.mem_of_getElem? (i := 11) rfl)))
  have hrg_a1 := jb_rng a1
  have hrg_a2 := jb_rng a2
  refine lv_iload_n hx hb dX10_insertNode_0 rfl (lv_at hl 1 rfl) ?_
  refine lv_if_lt (tgt := 22) hx hb dX10_insertNode_1 (by decide) (fun c_1 => ?_) (fun c_1 => ?_)
  · skip
    have c_1' : a1.toInt < 0 := jb_lt (rfl) ((by decide)) c_1
    refine lv_iconst (v := 0) hx hb dX10_insertNode_22 (by decide) ?_
    rw [hQ]
    exact W.zret (v := 0) hx hb hr (jb_nz (Or.inl rfl)) (fun t ht hW => ⟨⟨0, nc, rfl, ⟨(Or.inl rfl), by first | omega | (refine ⟨?_, ?_⟩ <;> (first | omega | rfl | assumption | decide | exact Or.inl rfl | exact Or.inr rfl | (simp only; omega)))⟩, hh.rt (M1 := [(r0, 12, 10, .int nc)]) [0] rfl ht⟩, by rw [ht]; try exact hh.1.1, fun q h9 hq => by rw [ht]; try exact hh.1.2.1 q h9 hq⟩) hh.1.2.2 dX10_insertNode_23
  · skip
    have c_1' : a1.toInt ≥ 0 := jb_lt_n (rfl) ((by decide)) c_1
    refine lv_iload_n hx hb dX10_insertNode_4 rfl (lv_at hl 1 rfl) ?_
    refine lv_aload_n hx hb dX10_insertNode_5 rfl (lv_at hl 0 rfl) ?_
    refine j7_read hx hb hown hK (C := RX10) (T := TX10) (N := 11) rfl hly_12_10 hlk_89 (hh.at 0 rfl) dX10_insertNode_6 ?_
    refine lv_icmp_gt (tgt := 22) hx hb dX10_insertNode_9 (by decide) (fun c_2 => ?_) (fun c_2 => ?_)
    · skip
      have c_2' : a1.toInt > nc.toInt := jb_gt (rfl) (rfl) c_2
      refine lv_iconst (v := 0) hx hb dX10_insertNode_22 (by decide) ?_
      rw [hQ]
      exact W.zret (v := 0) hx hb hr (jb_nz (Or.inl rfl)) (fun t ht hW => ⟨⟨0, nc, rfl, ⟨(Or.inl rfl), by first | omega | (refine ⟨?_, ?_⟩ <;> (first | omega | rfl | assumption | decide | exact Or.inl rfl | exact Or.inr rfl | (simp only; omega)))⟩, hh.rt (M1 := [(r0, 12, 10, .int nc)]) [0] rfl ht⟩, by rw [ht]; try exact hh.1.1, fun q h9 hq => by rw [ht]; try exact hh.1.2.1 q h9 hq⟩) hh.1.2.2 dX10_insertNode_23
    · skip
      have c_2' : a1.toInt ≤ nc.toInt := jb_gt_n (rfl) (rfl) c_2
      refine lv_aload_n hx hb dX10_insertNode_12 rfl (lv_at hl 0 rfl) ?_
      refine j7_read hx hb hown hK (C := RX10) (T := TX10) (N := 11) rfl hly_12_10 hlk_89 (hh.at 0 rfl) dX10_insertNode_13 ?_
      refine lv_sipush (v := 3000) hx hb dX10_insertNode_16 (by decide) ?_
      refine lv_icmp_lt (tgt := 24) hx hb dX10_insertNode_19 (by decide) (fun c_3 => ?_) (fun c_3 => ?_)
      · skip
        have c_3' : nc.toInt < 3000 := jb_lt (rfl) ((by decide)) c_3
        refine lv_aload_n hx hb dX10_insertNode_24 rfl (lv_at hl 0 rfl) ?_
        refine j7_read hx hb hown hK (C := RX10) (T := TX10) (N := 11) rfl hly_12_10 hlk_89 (hh.at 0 rfl) dX10_insertNode_25 ?_
        refine lv_istore_n (lv' := [(3, .int nc), (0, .ref r0), (1, .int a1), (2, .int a2)]) hx hb dX10_insertNode_28 rfl hl (by decide) rfl (fun ls hl => ?_)
        have L29 : ∀ (N : Nat) (v3_4 : Int32) (H_4 : Heap) (locs_4 : List Loc), jSt (dC, dI) B base G0 G0 EX10_insertNodeB s.heap 0 0 [(r0, 12, 10, .int nc)] [] [] H_4 locs_4 → (a1.toInt ≤ v3_4.toInt ∧ v3_4.toInt ≤ 2999) → (v3_4.toInt - a1.toInt : Int) < N → ∀ ls : Array Slot, lv_has ls 4 [(0, .ref r0), (1, .int a1), (2, .int a2), (3, .int v3_4)] → W p l e R s m ([.ref r0, .int a1, .int a2] : List Value).toArray below meth c H_4 locs_4 0 0 Q (F0 m 29 ls []) := by
          intro N
          induction N with
          | zero => intro v3_4 H_4 locs_4 hh_4  hi_4 hm; exact absurd hm (by omega)
          | succ N L29 =>
            intro v3_4 H_4 locs_4 hh_4  hi_4 hm_4 ls hl
            obtain ⟨hi_4_0, hi_4_1⟩ := hi_4
            refine lv_iload_n hx hb dX10_insertNode_29 rfl (lv_at hl 3 rfl) ?_
            refine lv_iload_n hx hb dX10_insertNode_30 rfl (lv_at hl 1 rfl) ?_
            refine lv_icmp_le (tgt := 54) hx hb dX10_insertNode_31 (by decide) (fun c_5 => ?_) (fun c_5 => ?_)
            · skip
              have c_5' : v3_4.toInt ≤ a1.toInt := jb_le (rfl) (rfl) c_5
              refine lv_aload_n hx hb dX10_insertNode_54 rfl (lv_at hl 0 rfl) ?_
              obtain ⟨v_6, hv_6, hh_7⟩ := hh_4.pin (C := RX10) (T := TX10) (N := 11) hB12 rfl (by decide) hg_r0 (i := 9) (by decide) rfl
              clear hh_4
              obtain ⟨nodes_8, rfl, hg_nodes_8⟩ := hv_6
              refine j7_read hx hb hown hK (C := RX10) (T := TX10) (N := 11) rfl hly_12_9 hlk_21 (hh_7.at 0 rfl) dX10_insertNode_55 ?_
              refine lv_iload_n hx hb dX10_insertNode_58 rfl (lv_at hl 1 rfl) ?_
              refine lv_iload_n hx hb dX10_insertNode_59 rfl (lv_at hl 2 rfl) ?_
              refine j7_iast hx hb hK hh_7 hB hB280 1 rfl (by decide) (by decide) rfl rfl rfl hg_nodes_8 (x := a1.toInt) (rfl) (by omega) (by first | omega | rfl | assumption | decide | exact Or.inl rfl | exact Or.inr rfl | (simp only; omega)) dX10_insertNode_60 (fun H_9 locs_9 hh_9 => ?_)
              clear hh_7
              refine lv_aload_n hx hb dX10_insertNode_61 rfl (lv_at hl 0 rfl) ?_
              refine lv_dup hx hb dX10_insertNode_62 rfl ?_
              refine j7_read hx hb hown hK (C := RX10) (T := TX10) (N := 11) rfl hly_12_10 hlk_89 (hh_9.at 1 rfl) dX10_insertNode_63 ?_
              refine lv_iconst (v := 1) hx hb dX10_insertNode_66 (by decide) ?_
              refine lv_iadd hx hb dX10_insertNode_67 ?_
              refine lv_topi (fun z_10 ez_10 => ?_)
              have hz_10 : z_10.toInt = nc.toInt + 1 := by rw [ez_10]; exact jb_iadd2 (rfl) ((by decide)) (by omega)
              refine j7_put hx hb hown hK hh_9 hB hAp hB12 (C := RX10) (T := TX10) (N := 11) rfl (by decide) hg_r0 (i := 10) (by decide) hly_12_10 rfl hlk_89 rfl (ty := .int) (v := .int z_10) (by decide +kernel) rfl rfl (⟨_, rfl, by omega, by omega⟩) rfl (L1 := [(r0, 12, 9, .ref nodes_8)]) [0] rfl rfl rfl dX10_insertNode_68 (fun H_11 locs_11 hh_11 => ?_)
              clear hh_9
              refine lv_iconst (v := 1) hx hb dX10_insertNode_71 (by decide) ?_
              rw [hQ]
              exact W.zret (v := 1) hx hb hr (jb_nz (Or.inr rfl)) (fun t ht hW => ⟨⟨1, z_10, rfl, ⟨(Or.inr rfl), by first | omega | (refine ⟨?_, ?_⟩ <;> (first | omega | rfl | assumption | decide | exact Or.inl rfl | exact Or.inr rfl | (simp only; omega)))⟩, hh_11.rt (M1 := [(r0, 12, 10, .int z_10)]) [0] rfl ht⟩, by rw [ht]; try exact hh_11.1.1, fun q h9 hq => by rw [ht]; try exact hh_11.1.2.1 q h9 hq⟩) hh_11.1.2.2 dX10_insertNode_72
            · skip
              have c_5' : v3_4.toInt > a1.toInt := jb_le_n (rfl) (rfl) c_5
              refine lv_aload_n hx hb dX10_insertNode_34 rfl (lv_at hl 0 rfl) ?_
              obtain ⟨v_12, hv_12, hh_13⟩ := hh_4.pin (C := RX10) (T := TX10) (N := 11) hB12 rfl (by decide) hg_r0 (i := 9) (by decide) rfl
              clear hh_4
              obtain ⟨nodes_14, rfl, hg_nodes_14⟩ := hv_12
              refine j7_read hx hb hown hK (C := RX10) (T := TX10) (N := 11) rfl hly_12_9 hlk_21 (hh_13.at 0 rfl) dX10_insertNode_35 ?_
              refine lv_iload_n hx hb dX10_insertNode_38 rfl (lv_at hl 3 rfl) ?_
              refine lv_aload_n hx hb dX10_insertNode_39 rfl (lv_at hl 0 rfl) ?_
              refine j7_read hx hb hown hK (C := RX10) (T := TX10) (N := 11) rfl hly_12_9 hlk_21 (hh_13.at 0 rfl) dX10_insertNode_40 ?_
              refine lv_iload_n hx hb dX10_insertNode_43 rfl (lv_at hl 3 rfl) ?_
              refine lv_iconst (v := 1) hx hb dX10_insertNode_44 (by decide) ?_
              refine lv_isub hx hb dX10_insertNode_45 ?_
              refine lv_topi (fun z_15 ez_15 => ?_)
              have hz_15 : z_15.toInt = v3_4.toInt - 1 := by rw [ez_15]; exact jb_isub2 (rfl) ((by decide)) (by omega)
              refine j7_iald hx hb hK hh_13 hB280 1 rfl (by decide) hg_nodes_14 (x := z_15.toInt) (rfl) (by omega) dX10_insertNode_46 (fun z_16 (hz_16 : -1 ≤ z_16.toInt) => ?_)
              refine j7_iast hx hb hK hh_13 hB hB280 1 rfl (by decide) (by decide) rfl rfl rfl hg_nodes_14 (x := v3_4.toInt) (rfl) (by omega) (by first | omega | rfl | assumption | decide | exact Or.inl rfl | exact Or.inr rfl | (simp only; omega)) dX10_insertNode_47 (fun H_17 locs_17 hh_17 => ?_)
              clear hh_13
              obtain ⟨z_18, ez_18⟩ : ∃ y : Int32, y = v3_4 + (-1) := ⟨_, rfl⟩
              refine lv_iinc (v := z_18) (lv' := [(3, .int z_18), (0, .ref r0), (1, .int a1), (2, .int a2)]) hx hb dX10_insertNode_48 hl (k := 3) rfl (by rw [ez_18]; rfl) (by decide) rfl (fun ls hl => ?_)
              have hz_18 : z_18.toInt = v3_4.toInt + (-1) := by rw [ez_18]; exact jb_iadd2 (rfl) (by decide) (by omega)
              refine lv_goto (tgt := 29) hx hb dX10_insertNode_51 (by decide) ?_
              exact L29 z_18 _ _ (hh_17.sub (L1 := [(r0, 12, 10, .int nc)]) [1] rfl (M1 := []) [] rfl (I1 := []) [] rfl) (by first | omega | (refine ⟨?_, ?_⟩ <;> (first | omega | rfl | assumption | decide | exact Or.inl rfl | exact Or.inr rfl | (simp only; omega)))) (by omega) _ (lv_sub hl [1, 2, 3, 0] rfl)
        exact L29 ((nc : Int32).toInt - a1.toInt : Int).toNat.succ nc _ _ hh (by first | omega | (refine ⟨?_, ?_⟩ <;> (first | omega | rfl | assumption | decide | exact Or.inl rfl | exact Or.inr rfl | (simp only; omega)))) (by omega) _ (lv_sub hl [1, 2, 3, 0] rfl)
      · skip
        have c_3' : nc.toInt ≥ 3000 := jb_lt_n (rfl) ((by decide)) c_3
        refine lv_iconst (v := 0) hx hb dX10_insertNode_22 (by decide) ?_
        rw [hQ]
        exact W.zret (v := 0) hx hb hr (jb_nz (Or.inl rfl)) (fun t ht hW => ⟨⟨0, nc, rfl, ⟨(Or.inl rfl), by first | omega | (refine ⟨?_, ?_⟩ <;> (first | omega | rfl | assumption | decide | exact Or.inl rfl | exact Or.inr rfl | (simp only; omega)))⟩, hh.rt (M1 := [(r0, 12, 10, .int nc)]) [0] rfl ht⟩, by rw [ht]; try exact hh.1.1, fun q h9 hq => by rw [ht]; try exact hh.1.2.1 q h9 hq⟩) hh.1.2.2 dX10_insertNode_23
end
