section
def EX4_numberP : List (Nat × Nat) := [(6, 7), (6, 11), (140, 0), (141, 0), (142, 0), (143, 0), (144, 0), (145, 0)]
def EX4_isColonP : List (Nat × Nat) := [(6, 11)]
set_option maxHeartbeats 4000000 in
set_option maxRecDepth 20000 in
theorem uX4_numberP (l : Launch) (dC : Nat → ClassId) (dI : Nat → Nat → Nat) (ca : Nat → ClassId) (base : Nat) (B : jF) (hB : jBok B) (hAp : jAp (dC, dI)) (hB6 : ∀ n G a H, B 6 n G a H ↔ jOb (dC, dI) 6 12 (F6 n G) a H) (hB100 : ∀ n G a H, B 100 n G a H ↔ jAr (dC, dI) (ca 0) (fun j z => True) n a H) (hB140 : ∀ n G a H, B 140 n G a H ↔ jAr (dC, dI) (ca 1) (fun j z => True) n a H) (hB141 : ∀ n G a H, B 141 n G a H ↔ jAr (dC, dI) (ca 1) (fun j z => True) n a H) (hB142 : ∀ n G a H, B 142 n G a H ↔ jAr (dC, dI) (ca 1) (fun j z => True) n a H) (hB143 : ∀ n G a H, B 143 n G a H ↔ jAr (dC, dI) (ca 1) (fun j z => True) n a H) (hB144 : ∀ n G a H, B 144 n G a H ↔ jAr (dC, dI) (ca 1) (fun j z => 0 ≤ z.toInt ∧ z.toInt ≤ 3000) n a H) (hB145 : ∀ n G a H, B 145 n G a H ↔ jAr (dC, dI) (ca 1) (fun j z => True) n a H) (G0 : jT) (H0 : Heap) (r0 : Nat) (rb : Nat) (n_rb : Nat) (pe : Int32) (pt : Int32) (pv : Int32) (pu : Int32) (wk : Nat) (wi : Nat) (wz : Nat) (jkf : Nat) (jks : Nat) (fk : Nat → Int32) (fi : Nat → Int32) (fz : Nat → Int32) (fa : Nat → Int32) (fs : Nat → Int32) : Met l yX4_number (jw yX4_number cX4_number 8 (some .int)) ({ frames := 2, cells := 0, slots := 0, locals := 41 }) (va_Pc [.ref r0] (fun U => U.heap = H0 ∧ jX B base G0 [] H0 ∧ jG dC dI ca base U ∧ G0 r0 = some (6, 0) ∧ G0 rb = some (100, n_rb) ∧ G0 wk = some (140, 1502) ∧ G0 wi = some (141, 1502) ∧ G0 wz = some (142, 1502) ∧ G0 jkf = some (144, 1502) ∧ G0 jks = some (145, 1502) ∧ jP (dC, dI) G0 H0 [(r0, 6, 9, .ref rb), (r0, 6, 10, .int pe), (r0, 6, 11, .int pt), (r0, 6, 7, .int pv), (r0, 6, 8, .int pu), (r0, 6, 0, .ref wk), (r0, 6, 1, .ref wi), (r0, 6, 2, .ref wz), (r0, 6, 4, .ref jkf), (r0, 6, 5, .ref jks)] ∧ jMc (dC, dI) G0 H0 [(wk, 140, 1502, ca 1, fk), (wi, 141, 1502, ca 1, fi), (wz, 142, 1502, ca 1, fz), (jkf, 144, 1502, ca 1, fa), (jks, 145, 1502, ca 1, fs)] ∧ 0 ≤ pe.toInt ∧ pe.toInt ≤ n_rb ∧ n_rb ≤ 3000 ∧ 0 ≤ pt.toInt ∧ pt.toInt ≤ 19000 ∧ pt.toInt ≤ pe.toInt ∧ 0 ≤ pv.toInt ∧ pv.toInt ≤ 1502 ∧ 0 ≤ pu.toInt ∧ pu.toInt ≤ 3000)) (va_Qi (S := Int32 × Int32 × Int32 × (Nat → Int32) × (Nat → Int32) × (Nat → Int32) × (Nat → Int32) × (Nat → Int32)) (fun r u => (-1 ≤ r.toInt ∧ r.toInt ≤ 1501 ∧ pt.toInt ≤ u.1.toInt ∧ u.1.toInt ≤ pe.toInt ∧ u.2.1.toInt ≤ 1502 ∧ u.2.2.1.toInt = pu.toInt ∧ jVr (fk, fi, fz, fa, fs) pv.toInt pu.toInt pt.toInt (u.2.2.2.1, u.2.2.2.2.1, u.2.2.2.2.2.1, u.2.2.2.2.2.2.1, u.2.2.2.2.2.2.2) u.2.1.toInt u.2.2.1.toInt u.1.toInt r.toInt)) (fun u t => jRt (dC, dI) B base G0 EX4_numberP H0 [(r0, 6, 11, .int u.1), (r0, 6, 7, .int u.2.1), (r0, 6, 8, .int u.2.2.1)] t.heap ∧ jMc (dC, dI) G0 t.heap [(wk, 140, 1502, ca 1, u.2.2.2.1), (wi, 141, 1502, ca 1, u.2.2.2.2.1), (wz, 142, 1502, ca 1, u.2.2.2.2.2.1), (jkf, 144, 1502, ca 1, u.2.2.2.2.2.2.1), (jks, 145, 1502, ca 1, u.2.2.2.2.2.2.2)]) (jA base)) 0 0 (jA base) := by
  refine Met.ofW (cc := cX4_number) (maxL := 8) (ret := (some .int)) (by decide) rfl ?_
  intro p e s m args below meth c s₁ Bd hml hv
  obtain ⟨rfl, hH0, hX, hG, hg_r0, hg_rb, hg_wk, hg_wi, hg_wz, hg_jkf, hg_jks, hP0, hM0, hp0, hp1, hp2, hp3, hp4, hp5, hp6, hp7, hp8, hp9⟩ := hv
  have hK := hG.1
  have hx := Bd.exec
  have hb := Bd.bytes
  have hr := Bd.returns
  have hts := atoms_spec (ws := (jw yX4_number cX4_number 8 (some .int))) Bd.pre
  have htw : ∀ w ∈ jWl, w.before _ s = true := fun w h => hts w (List.mem_cons_of_mem _ h)
  have hown : s.vm.findClass RX4 = some m.cls := findClass_of_methodNamed Bd.named
  have hlocks := Bd.notSynchronized
  obtain ⟨Q, hQ⟩ : ∃ Q, Q = MQ below (va_Qi (S := Int32 × Int32 × Int32 × (Nat → Int32) × (Nat → Int32) × (Nat → Int32) × (Nat → Int32) × (Nat → Int32)) (fun r u => (-1 ≤ r.toInt ∧ r.toInt ≤ 1501 ∧ pt.toInt ≤ u.1.toInt ∧ u.1.toInt ≤ pe.toInt ∧ u.2.1.toInt ≤ 1502 ∧ u.2.2.1.toInt = pu.toInt ∧ jVr (fk, fi, fz, fa, fs) pv.toInt pu.toInt pt.toInt (u.2.2.2.1, u.2.2.2.2.1, u.2.2.2.2.2.1, u.2.2.2.2.2.2.1, u.2.2.2.2.2.2.2) u.2.1.toInt u.2.2.1.toInt u.1.toInt r.toInt)) (fun u t => jRt (dC, dI) B base G0 EX4_numberP H0 [(r0, 6, 11, .int u.1), (r0, 6, 7, .int u.2.1), (r0, 6, 8, .int u.2.2.1)] t.heap ∧ jMc (dC, dI) G0 t.heap [(wk, 140, 1502, ca 1, u.2.2.2.1), (wi, 141, 1502, ca 1, u.2.2.2.2.1), (wz, 142, 1502, ca 1, u.2.2.2.2.2.1), (jkf, 144, 1502, ca 1, u.2.2.2.2.2.2.1), (jks, 145, 1502, ca 1, u.2.2.2.2.2.2.2)]) (jA base)) ([.ref r0] : List Value).toArray s 0 0 (jA base) := ⟨_, rfl⟩
  rw [← hQ]
  have hl := lv_entry ([.ref r0]) (n := 8) (Nat.le_of_ble_eq_true rfl)
  rw [lg_entry_eq]
  generalize (lg_sl ([.ref r0]) ++ List.replicate (8 - (lg_sl ([.ref r0])).length) Slot.unset).toArray = ls at hl ⊢
  have hl : lv_has ls 8 [(0, .ref r0)] := hl
  generalize hR : (headSpec (jw yX4_number cX4_number 8 (some .int)) ({ frames := 2, cells := 0, slots := 0, locals := 41 })).room = R
  subst hH0
  have hh : jSt (dC, dI) B base G0 G0 EX4_numberP s.heap 0 0 [(r0, 6, 9, .ref rb), (r0, 6, 10, .int pe), (r0, 6, 11, .int pt), (r0, 6, 7, .int pv), (r0, 6, 8, .int pu), (r0, 6, 0, .ref wk), (r0, 6, 1, .ref wi), (r0, 6, 2, .ref wz), (r0, 6, 4, .ref jkf), (r0, 6, 5, .ref jks)] [(wk, 140, 1502, ca 1, fk), (wi, 141, 1502, ca 1, fi), (wz, 142, 1502, ca 1, fz), (jkf, 144, 1502, ca 1, fa), (jks, 145, 1502, ca 1, fs)] [] s.heap [] := jSt.start hX hP0 hM0 jIs.nil
  clear hX hP0
  have hkm1 : ((-1) : Int32).toInt = (-1) := by decide
  have hk0 : (0 : Int32).toInt = 0 := by decide
  have hk1 : (1 : Int32).toInt = 1 := by decide
  have hk4 : (4 : Int32).toInt = 4 := by decide
  have hk5 : (5 : Int32).toInt = 5 := by decide
  have hk43 : (43 : Int32).toInt = 43 := by decide
  have hk45 : (45 : Int32).toInt = 45 := by decide
  have hk46 : (46 : Int32).toInt = 46 := by decide
  have hk48 : (48 : Int32).toInt = 48 := by decide
  have hk69 : (69 : Int32).toInt = 69 := by decide
  have hk101 : (101 : Int32).toInt = 101 := by decide
  have hly_6_9 := htw (u_lay RX4 TX4 9) (jWc_wsX40 _ (u_in_lay (by decide)))
  have hly_6_11 := htw (u_lay RX4 TX4 11) (jWc_wsX40 _ (u_in_lay (by decide)))
  have hlk_47 := (htw (.fieldLink RX4 47 "ProofServer$Json" "at" "I") (jWr_19 _ (List.mem_of_getElem? (i := 12) rfl)))
  have hlk_33 := (htw (.fieldLink RX4 33 "ProofServer$Json" "bytes" "[B") (jWr_4 _ (List.mem_of_getElem? (i := 4) rfl)))
  refine lv_aload_n hx hb dX4_number_0 rfl (lv_at hl 0 rfl) ?_
  refine va_calli (A0 := jA base) (H0 := s.heap) (va_runV (As := []) (rest := []) ⟨hx, hb, hml, hown, hts⟩ (uX4_peek l dC dI ca base B hB hAp hB6 hB100 G0 s.heap r0 rb n_rb pe pt) (cwV 0 hts (jgV (jWr_19 _ (List.mem_of_getElem? (i := 19) rfl)) (jWr_19 _ (List.mem_of_getElem? (i := 20) rfl)) (jWr_19 _ (List.mem_of_getElem? (i := 21) rfl)) (jWr_1 _ (List.mem_of_getElem? (i := 22) rfl)) (jWr_19 _ (List.mem_of_getElem? (i := 22) rfl))) rfl rfl rfl (by decide +kernel) ⟨by rw [← hR]; exact Nat.le_of_ble_eq_true rfl, by rw [← hR]; exact Nat.le_of_ble_eq_true rfl⟩) ⟨fun a U g mk q => by obtain ⟨q0, q1, q2, qK, q10, q11, q12, q13⟩ := q; exact ⟨q0, q1, q2, jG.calling g mk a qK, q10, q11, q12, q13⟩, hh.recv (C := RX4) (T := TX4) (N := 12) hB6 rfl (by decide) hg_r0 hK, fun U hU hW => ⟨rfl, hU, hh.2.1, hG.step hW hU hh.1, hg_r0, hg_rb, (hh.2.2.1.sub (L1 := [(r0, 6, 9, .ref rb), (r0, 6, 10, .int pe), (r0, 6, 11, .int pt)]) [0, 1, 2] rfl), by first | omega | (refine ⟨?_, ?_, ?_, ?_, ?_⟩ <;> (first | omega | rfl | assumption | decide | exact Or.inl rfl | exact Or.inr rfl | (simp only; omega)))⟩⟩ rfl rfl hl.1 rfl (lv_room (Nat.le_of_ble_eq_true rfl)) dX4_number_1 ⟨Nat.zero_le _, Nat.zero_le _⟩) hh.1 (fun q _ h => h) (fun q h => h) (fun r_2 u_1 t_1 H_1 locs_1 ht_1 hvm_1 hr_2 hb_1 hz_1 hk_1 hS_1 => ?_)
  rw [ht_1] at hb_1
  obtain ⟨hb_11, hb_12, hb_13, hb_14, hb_15⟩ := hb_1
  have hh_1 : jSt (dC, dI) B base G0 G0 EX4_numberP s.heap 0 0 [(r0, 6, 9, .ref rb), (r0, 6, 10, .int pe), (r0, 6, 11, .int pt), (r0, 6, 7, .int pv), (r0, 6, 8, .int pu), (r0, 6, 0, .ref wk), (r0, 6, 1, .ref wi), (r0, 6, 2, .ref wz), (r0, 6, 4, .ref jkf), (r0, 6, 5, .ref jks)] [(wk, 140, 1502, ca 1, fk), (wi, 141, 1502, ca 1, fi), (wz, 142, 1502, ca 1, fz), (jkf, 144, 1502, ca 1, fa), (jks, 145, 1502, ca 1, fs)] [] H_1 locs_1 := ((hh.call hb_11 hb_12 hb_13 hb_14 hS_1 rfl (L1 := [(r0, 6, 9, .ref rb), (r0, 6, 10, .int pe), (r0, 6, 11, .int pt), (r0, 6, 7, .int pv), (r0, 6, 8, .int pu), (r0, 6, 0, .ref wk), (r0, 6, 1, .ref wi), (r0, 6, 2, .ref wz), (r0, 6, 4, .ref jkf), (r0, 6, 5, .ref jks)]) [0, 1, 2, 3, 4, 5, 6, 7, 8, 9] rfl rfl (M1 := [(wk, 140, 1502, ca 1, fk), (wi, 141, 1502, ca 1, fi), (wz, 142, 1502, ca 1, fz), (jkf, 144, 1502, ca 1, fa), (jks, 145, 1502, ca 1, fs)]) [0, 1, 2, 3, 4] rfl rfl (I1 := []) [] rfl rfl).more hb_15)
  clear hh ht_1 hvm_1 hz_1 hk_1 hS_1 hb_11 hb_12 hb_13 hb_14 hb_15
  obtain ⟨hr_2_0, hr_2_1, hr_2_2⟩ := hr_2
  refine lv_bipush (v := 45) hx hb dX4_number_4 (by decide) ?_
  refine lv_icmp_ne (tgt := 13) hx hb dX4_number_6 (by decide) (fun c_3 => ?_) (fun c_3 => ?_)
  · skip
    have c_3' : r_2.toInt ≠ 45 := jb_ne (rfl) ((by decide)) c_3
    try clear hr_2_2
    refine lv_iconst (v := 0) hx hb dX4_number_13 (by decide) ?_
    refine lv_istore_n (lv' := [(1, .int 0), (0, .ref r0)]) hx hb dX4_number_14 rfl hl (by decide) rfl (fun ls hl => ?_)
    refine lv_iload_n hx hb dX4_number_15 rfl (lv_at hl 0 rfl) ?_
    have C29 : ∀ (wt_4 : Int32) (H_4 : Heap) (locs_4 : List Loc), jSt (dC, dI) B base G0 G0 EX4_numberP s.heap 0 0 [(r0, 6, 11, .int wt_4), (r0, 6, 9, .ref rb), (r0, 6, 10, .int pe), (r0, 6, 7, .int pv), (r0, 6, 8, .int pu), (r0, 6, 0, .ref wk), (r0, 6, 1, .ref wi), (r0, 6, 2, .ref wz), (r0, 6, 4, .ref jkf), (r0, 6, 5, .ref jks)] [(wk, 140, 1502, ca 1, fk), (wi, 141, 1502, ca 1, fi), (wz, 142, 1502, ca 1, fz), (jkf, 144, 1502, ca 1, fa), (jks, 145, 1502, ca 1, fs)] [] H_4 locs_4 → (pt.toInt ≤ wt_4.toInt ∧ wt_4.toInt ≤ pe.toInt) → ∀ ls : Array Slot, lv_has ls 8 [(0, .ref r0), (1, .int 0)] → W p l e R s m ([.ref r0] : List Value).toArray below meth c H_4 locs_4 0 0 Q (F0 m 29 ls []) := by
      intro wt_4 H_4 locs_4 hh_4  hi_4 ls hl
      obtain ⟨hi_4_0, hi_4_1⟩ := hi_4
      refine lv_aload_n hx hb dX4_number_29 rfl (lv_at hl 0 rfl) ?_
      refine j7_read hx hb hown hK (C := RX4) (T := TX4) (N := 12) rfl hly_6_11 hlk_47 (hh_4.at 0 rfl) dX4_number_30 ?_
      refine lv_istore_n (lv' := [(2, .int wt_4), (0, .ref r0), (1, .int 0)]) hx hb dX4_number_33 rfl hl (by decide) rfl (fun ls hl => ?_)
      refine lv_aload_n hx hb dX4_number_34 rfl (lv_at hl 1 rfl) ?_
      refine va_calli (A0 := jA base) (H0 := s.heap) (va_runV (As := []) (rest := []) ⟨hx, hb, hml, hown, hts⟩ (uX4_digits l dC dI ca base B hB hAp hB6 hB100 G0 H_4 r0 rb n_rb pe wt_4) (cwV 0 hts (jgV (jWr_23 _ (List.mem_of_getElem? (i := 1) rfl)) (jWr_23 _ (List.mem_of_getElem? (i := 2) rfl)) (jWr_23 _ (List.mem_of_getElem? (i := 3) rfl)) (jWr_1 _ (List.mem_of_getElem? (i := 22) rfl)) (jWr_23 _ (List.mem_of_getElem? (i := 4) rfl))) rfl rfl rfl (by decide +kernel) ⟨by rw [← hR]; exact Nat.le_of_ble_eq_true rfl, by rw [← hR]; exact Nat.le_of_ble_eq_true rfl⟩) ⟨fun a U g mk q => by obtain ⟨q0, q1, q2, qK, q10, q11, q12, q13⟩ := q; exact ⟨q0, q1, q2, jG.calling g mk a qK, q10, q11, q12, q13⟩, hh_4.recv (C := RX4) (T := TX4) (N := 12) hB6 rfl (by decide) hg_r0 hK, fun U hU hW => ⟨rfl, hU, hh_4.2.1, hG.step hW hU hh_4.1, hg_r0, hg_rb, (hh_4.2.2.1.sub (L1 := [(r0, 6, 9, .ref rb), (r0, 6, 10, .int pe), (r0, 6, 11, .int wt_4)]) [1, 2, 0] rfl), by first | omega | (refine ⟨?_, ?_, ?_, ?_, ?_, ?_⟩ <;> (first | omega | rfl | assumption | decide | exact Or.inl rfl | exact Or.inr rfl | (simp only; omega)))⟩⟩ rfl rfl hl.1 rfl (lv_room (Nat.le_of_ble_eq_true rfl)) dX4_number_35 ⟨Nat.zero_le _, Nat.zero_le _⟩) hh_4.1 (fun q _ h => h) (fun q h => h) (fun r_6 u_5 t_5 H_5 locs_5 ht_5 hvm_5 hr_6 hb_5 hz_5 hk_5 hS_5 => ?_)
      obtain ⟨qt_5, rfl⟩ : ∃ z, z = u_5 := ⟨_, rfl⟩
      rw [ht_5] at hb_5
      obtain ⟨hb_51, hb_52, hb_53, hb_54, hb_55⟩ := hb_5
      have hh_5 : jSt (dC, dI) B base G0 G0 EX4_numberP s.heap 0 0 [(r0, 6, 11, .int qt_5), (r0, 6, 9, .ref rb), (r0, 6, 10, .int pe), (r0, 6, 7, .int pv), (r0, 6, 8, .int pu), (r0, 6, 0, .ref wk), (r0, 6, 1, .ref wi), (r0, 6, 2, .ref wz), (r0, 6, 4, .ref jkf), (r0, 6, 5, .ref jks)] [(wk, 140, 1502, ca 1, fk), (wi, 141, 1502, ca 1, fi), (wz, 142, 1502, ca 1, fz), (jkf, 144, 1502, ca 1, fa), (jks, 145, 1502, ca 1, fs)] [] H_5 locs_5 := ((hh_4.call hb_51 hb_52 hb_53 hb_54 hS_5 rfl (L1 := [(r0, 6, 9, .ref rb), (r0, 6, 10, .int pe), (r0, 6, 7, .int pv), (r0, 6, 8, .int pu), (r0, 6, 0, .ref wk), (r0, 6, 1, .ref wi), (r0, 6, 2, .ref wz), (r0, 6, 4, .ref jkf), (r0, 6, 5, .ref jks)]) [1, 2, 3, 4, 5, 6, 7, 8, 9] rfl rfl (M1 := [(wk, 140, 1502, ca 1, fk), (wi, 141, 1502, ca 1, fi), (wz, 142, 1502, ca 1, fz), (jkf, 144, 1502, ca 1, fa), (jks, 145, 1502, ca 1, fs)]) [0, 1, 2, 3, 4] rfl rfl (I1 := []) [] rfl rfl).more hb_55)
      clear hh_4 ht_5 hvm_5 hz_5 hk_5 hS_5 hb_51 hb_52 hb_53 hb_54 hb_55
      obtain ⟨hr_6_0, hr_6_1, hr_6_2⟩ := hr_6
      refine lv_istore_n (lv' := [(3, .int r_6), (2, .int wt_4), (0, .ref r0), (1, .int 0)]) hx hb dX4_number_38 rfl hl (by decide) rfl (fun ls hl => ?_)
      refine lv_iload_n hx hb dX4_number_39 rfl (lv_at hl 0 rfl) ?_
      refine lv_if_eq (tgt := 59) hx hb dX4_number_40 (by decide) (fun c_7 => ?_) (fun c_7 => ?_)
      · skip
        have c_7' : r_6.toInt = 0 := jb_eq (rfl) ((by decide)) c_7
        refine lv_iconst (v := (-1)) hx hb dX4_number_59 (by decide) ?_
        rw [hQ]
        exact W.iret (v := (-1)) hx hb hr (fun t ht hW => ⟨⟨(-1), (qt_5, pv, pu, fk, fi, fz, fa, fs), rfl, by (try dsimp only); refine ⟨by omega, by omega, by omega, by omega, by omega, by omega, ?_⟩; exact jVr.no (by omega) (by omega) (by omega) (by omega), ⟨hh_5.rt (M1 := [(r0, 6, 11, .int qt_5), (r0, 6, 7, .int pv), (r0, 6, 8, .int pu)]) [0, 3, 4] rfl ht, by rw [ht]; exact hh_5.2.2.2.2.2.2.2.1.sub [0, 1, 2, 3, 4] rfl⟩⟩, by rw [ht]; try exact hh_5.1.1, fun q h9 hq => by rw [ht]; try exact hh_5.1.2.1 q h9 hq⟩) hh_5.1.2.2 dX4_number_60
      · skip
        have c_7' : r_6.toInt ≠ 0 := jb_eq_n (rfl) ((by decide)) c_7
        refine lv_iload_n hx hb dX4_number_43 rfl (lv_at hl 0 rfl) ?_
        refine lv_iconst (v := 1) hx hb dX4_number_44 (by decide) ?_
        have C61 : ∀ (H_8 : Heap) (locs_8 : List Loc), jSt (dC, dI) B base G0 G0 EX4_numberP s.heap 0 0 [(r0, 6, 11, .int qt_5), (r0, 6, 9, .ref rb), (r0, 6, 10, .int pe), (r0, 6, 7, .int pv), (r0, 6, 8, .int pu), (r0, 6, 0, .ref wk), (r0, 6, 1, .ref wi), (r0, 6, 2, .ref wz), (r0, 6, 4, .ref jkf), (r0, 6, 5, .ref jks)] [(wk, 140, 1502, ca 1, fk), (wi, 141, 1502, ca 1, fi), (wz, 142, 1502, ca 1, fz), (jkf, 144, 1502, ca 1, fa), (jks, 145, 1502, ca 1, fs)] [] H_8 locs_8 → (True) → ∀ ls : Array Slot, lv_has ls 8 [(0, .ref r0), (1, .int 0), (2, .int wt_4), (3, .int r_6)] → W p l e R s m ([.ref r0] : List Value).toArray below meth c H_8 locs_8 0 0 Q (F0 m 61 ls []) := by
          intro  H_8 locs_8 hh_8  hi_8 ls hl
          refine lv_iconst (v := 1) hx hb dX4_number_61 (by decide) ?_
          refine lv_istore (lv' := [(4, .int 1), (0, .ref r0), (1, .int 0), (2, .int wt_4), (3, .int r_6)]) hx hb dX4_number_62 hl (by decide) rfl (fun ls hl => ?_)
          refine lv_aload_n hx hb dX4_number_64 rfl (lv_at hl 1 rfl) ?_
          refine va_calli (A0 := jA base) (H0 := s.heap) (va_runV (As := []) (rest := []) ⟨hx, hb, hml, hown, hts⟩ (uX4_peek l dC dI ca base B hB hAp hB6 hB100 G0 H_8 r0 rb n_rb pe qt_5) (cwV 0 hts (jgV (jWr_19 _ (List.mem_of_getElem? (i := 19) rfl)) (jWr_19 _ (List.mem_of_getElem? (i := 20) rfl)) (jWr_19 _ (List.mem_of_getElem? (i := 21) rfl)) (jWr_1 _ (List.mem_of_getElem? (i := 22) rfl)) (jWr_19 _ (List.mem_of_getElem? (i := 22) rfl))) rfl rfl rfl (by decide +kernel) ⟨by rw [← hR]; exact Nat.le_of_ble_eq_true rfl, by rw [← hR]; exact Nat.le_of_ble_eq_true rfl⟩) ⟨fun a U g mk q => by obtain ⟨q0, q1, q2, qK, q10, q11, q12, q13⟩ := q; exact ⟨q0, q1, q2, jG.calling g mk a qK, q10, q11, q12, q13⟩, hh_8.recv (C := RX4) (T := TX4) (N := 12) hB6 rfl (by decide) hg_r0 hK, fun U hU hW => ⟨rfl, hU, hh_8.2.1, hG.step hW hU hh_8.1, hg_r0, hg_rb, (hh_8.2.2.1.sub (L1 := [(r0, 6, 9, .ref rb), (r0, 6, 10, .int pe), (r0, 6, 11, .int qt_5)]) [1, 2, 0] rfl), by first | omega | (refine ⟨?_, ?_, ?_, ?_, ?_⟩ <;> (first | omega | rfl | assumption | decide | exact Or.inl rfl | exact Or.inr rfl | (simp only; omega)))⟩⟩ rfl rfl hl.1 rfl (lv_room (Nat.le_of_ble_eq_true rfl)) dX4_number_65 ⟨Nat.zero_le _, Nat.zero_le _⟩) hh_8.1 (fun q _ h => h) (fun q h => h) (fun r_10 u_9 t_9 H_9 locs_9 ht_9 hvm_9 hr_10 hb_9 hz_9 hk_9 hS_9 => ?_)
          rw [ht_9] at hb_9
          obtain ⟨hb_91, hb_92, hb_93, hb_94, hb_95⟩ := hb_9
          have hh_9 : jSt (dC, dI) B base G0 G0 EX4_numberP s.heap 0 0 [(r0, 6, 11, .int qt_5), (r0, 6, 9, .ref rb), (r0, 6, 10, .int pe), (r0, 6, 7, .int pv), (r0, 6, 8, .int pu), (r0, 6, 0, .ref wk), (r0, 6, 1, .ref wi), (r0, 6, 2, .ref wz), (r0, 6, 4, .ref jkf), (r0, 6, 5, .ref jks)] [(wk, 140, 1502, ca 1, fk), (wi, 141, 1502, ca 1, fi), (wz, 142, 1502, ca 1, fz), (jkf, 144, 1502, ca 1, fa), (jks, 145, 1502, ca 1, fs)] [] H_9 locs_9 := ((hh_8.call hb_91 hb_92 hb_93 hb_94 hS_9 rfl (L1 := [(r0, 6, 11, .int qt_5), (r0, 6, 9, .ref rb), (r0, 6, 10, .int pe), (r0, 6, 7, .int pv), (r0, 6, 8, .int pu), (r0, 6, 0, .ref wk), (r0, 6, 1, .ref wi), (r0, 6, 2, .ref wz), (r0, 6, 4, .ref jkf), (r0, 6, 5, .ref jks)]) [0, 1, 2, 3, 4, 5, 6, 7, 8, 9] rfl rfl (M1 := [(wk, 140, 1502, ca 1, fk), (wi, 141, 1502, ca 1, fi), (wz, 142, 1502, ca 1, fz), (jkf, 144, 1502, ca 1, fa), (jks, 145, 1502, ca 1, fs)]) [0, 1, 2, 3, 4] rfl rfl (I1 := []) [] rfl rfl).more hb_95)
          clear hh_8 ht_9 hvm_9 hz_9 hk_9 hS_9 hb_91 hb_92 hb_93 hb_94 hb_95
          obtain ⟨hr_10_0, hr_10_1, hr_10_2⟩ := hr_10
          refine lv_bipush (v := 46) hx hb dX4_number_68 (by decide) ?_
          have C95 : ∀ (v4_11 : Int32) (wt_11 : Int32) (H_11 : Heap) (locs_11 : List Loc), jSt (dC, dI) B base G0 G0 EX4_numberP s.heap 0 0 [(r0, 6, 11, .int wt_11), (r0, 6, 9, .ref rb), (r0, 6, 10, .int pe), (r0, 6, 7, .int pv), (r0, 6, 8, .int pu), (r0, 6, 0, .ref wk), (r0, 6, 1, .ref wi), (r0, 6, 2, .ref wz), (r0, 6, 4, .ref jkf), (r0, 6, 5, .ref jks)] [(wk, 140, 1502, ca 1, fk), (wi, 141, 1502, ca 1, fi), (wz, 142, 1502, ca 1, fz), (jkf, 144, 1502, ca 1, fa), (jks, 145, 1502, ca 1, fs)] [] H_11 locs_11 → (v4_11 = 0 ∨ v4_11 = 1) → (pt.toInt ≤ wt_11.toInt ∧ wt_11.toInt ≤ pe.toInt ∧ qt_5.toInt ≤ wt_11.toInt ∧ pt.toInt + 1 ≤ wt_11.toInt) → ∀ ls : Array Slot, lv_has ls 8 [(0, .ref r0), (1, .int 0), (2, .int wt_4), (3, .int r_6), (4, .int v4_11)] → W p l e R s m ([.ref r0] : List Value).toArray below meth c H_11 locs_11 0 0 Q (F0 m 95 ls []) := by
            intro v4_11 wt_11 H_11 locs_11 hh_11 hb_v4_11 hi_11 ls hl
            obtain ⟨hi_11_0, hi_11_1, hi_11_2, hi_11_3⟩ := hi_11
            have hb_v4_11' := jb_01 hb_v4_11
            try clear hr_10_2
            refine lv_aload_n hx hb dX4_number_95 rfl (lv_at hl 0 rfl) ?_
            refine va_calli (A0 := jA base) (H0 := s.heap) (va_runV (As := []) (rest := []) ⟨hx, hb, hml, hown, hts⟩ (uX4_peek l dC dI ca base B hB hAp hB6 hB100 G0 H_11 r0 rb n_rb pe wt_11) (cwV 0 hts (jgV (jWr_19 _ (List.mem_of_getElem? (i := 19) rfl)) (jWr_19 _ (List.mem_of_getElem? (i := 20) rfl)) (jWr_19 _ (List.mem_of_getElem? (i := 21) rfl)) (jWr_1 _ (List.mem_of_getElem? (i := 22) rfl)) (jWr_19 _ (List.mem_of_getElem? (i := 22) rfl))) rfl rfl rfl (by decide +kernel) ⟨by rw [← hR]; exact Nat.le_of_ble_eq_true rfl, by rw [← hR]; exact Nat.le_of_ble_eq_true rfl⟩) ⟨fun a U g mk q => by obtain ⟨q0, q1, q2, qK, q10, q11, q12, q13⟩ := q; exact ⟨q0, q1, q2, jG.calling g mk a qK, q10, q11, q12, q13⟩, hh_11.recv (C := RX4) (T := TX4) (N := 12) hB6 rfl (by decide) hg_r0 hK, fun U hU hW => ⟨rfl, hU, hh_11.2.1, hG.step hW hU hh_11.1, hg_r0, hg_rb, (hh_11.2.2.1.sub (L1 := [(r0, 6, 9, .ref rb), (r0, 6, 10, .int pe), (r0, 6, 11, .int wt_11)]) [1, 2, 0] rfl), by first | omega | (refine ⟨?_, ?_, ?_, ?_, ?_⟩ <;> (first | omega | rfl | assumption | decide | exact Or.inl rfl | exact Or.inr rfl | (simp only; omega)))⟩⟩ rfl rfl hl.1 rfl (lv_room (Nat.le_of_ble_eq_true rfl)) dX4_number_96 ⟨Nat.zero_le _, Nat.zero_le _⟩) hh_11.1 (fun q _ h => h) (fun q h => h) (fun r_13 u_12 t_12 H_12 locs_12 ht_12 hvm_12 hr_13 hb_12 hz_12 hk_12 hS_12 => ?_)
            rw [ht_12] at hb_12
            obtain ⟨hb_121, hb_122, hb_123, hb_124, hb_125⟩ := hb_12
            have hh_12 : jSt (dC, dI) B base G0 G0 EX4_numberP s.heap 0 0 [(r0, 6, 11, .int wt_11), (r0, 6, 9, .ref rb), (r0, 6, 10, .int pe), (r0, 6, 7, .int pv), (r0, 6, 8, .int pu), (r0, 6, 0, .ref wk), (r0, 6, 1, .ref wi), (r0, 6, 2, .ref wz), (r0, 6, 4, .ref jkf), (r0, 6, 5, .ref jks)] [(wk, 140, 1502, ca 1, fk), (wi, 141, 1502, ca 1, fi), (wz, 142, 1502, ca 1, fz), (jkf, 144, 1502, ca 1, fa), (jks, 145, 1502, ca 1, fs)] [] H_12 locs_12 := ((hh_11.call hb_121 hb_122 hb_123 hb_124 hS_12 rfl (L1 := [(r0, 6, 11, .int wt_11), (r0, 6, 9, .ref rb), (r0, 6, 10, .int pe), (r0, 6, 7, .int pv), (r0, 6, 8, .int pu), (r0, 6, 0, .ref wk), (r0, 6, 1, .ref wi), (r0, 6, 2, .ref wz), (r0, 6, 4, .ref jkf), (r0, 6, 5, .ref jks)]) [0, 1, 2, 3, 4, 5, 6, 7, 8, 9] rfl rfl (M1 := [(wk, 140, 1502, ca 1, fk), (wi, 141, 1502, ca 1, fi), (wz, 142, 1502, ca 1, fz), (jkf, 144, 1502, ca 1, fa), (jks, 145, 1502, ca 1, fs)]) [0, 1, 2, 3, 4] rfl rfl (I1 := []) [] rfl rfl).more hb_125)
            clear hh_11 ht_12 hvm_12 hz_12 hk_12 hS_12 hb_121 hb_122 hb_123 hb_124 hb_125
            obtain ⟨hr_13_0, hr_13_1, hr_13_2⟩ := hr_13
            refine lv_bipush (v := 101) hx hb dX4_number_99 (by decide) ?_
            have C163 : ∀ (v4_14 : Int32) (wt_14 : Int32) (H_14 : Heap) (locs_14 : List Loc), jSt (dC, dI) B base G0 G0 EX4_numberP s.heap 0 0 [(r0, 6, 11, .int wt_14), (r0, 6, 9, .ref rb), (r0, 6, 10, .int pe), (r0, 6, 7, .int pv), (r0, 6, 8, .int pu), (r0, 6, 0, .ref wk), (r0, 6, 1, .ref wi), (r0, 6, 2, .ref wz), (r0, 6, 4, .ref jkf), (r0, 6, 5, .ref jks)] [(wk, 140, 1502, ca 1, fk), (wi, 141, 1502, ca 1, fi), (wz, 142, 1502, ca 1, fz), (jkf, 144, 1502, ca 1, fa), (jks, 145, 1502, ca 1, fs)] [] H_14 locs_14 → (v4_14 = 0 ∨ v4_14 = 1) → (pt.toInt ≤ wt_14.toInt ∧ wt_14.toInt ≤ pe.toInt ∧ wt_11.toInt ≤ wt_14.toInt ∧ pt.toInt + 1 ≤ wt_14.toInt) → ∀ ls : Array Slot, lv_has ls 8 [(0, .ref r0), (1, .int 0), (2, .int wt_4), (3, .int r_6), (4, .int v4_14)] → W p l e R s m ([.ref r0] : List Value).toArray below meth c H_14 locs_14 0 0 Q (F0 m 163 ls []) := by
              intro v4_14 wt_14 H_14 locs_14 hh_14 hb_v4_14 hi_14 ls hl
              obtain ⟨hi_14_0, hi_14_1, hi_14_2, hi_14_3⟩ := hi_14
              have hb_v4_14' := jb_01 hb_v4_14
              try clear hr_13_2
              refine lv_lconst (v := 0) hx hb dX4_number_163 (by decide) ?_
              refine lv_lstore (lv' := [(5, .long 0), (0, .ref r0), (1, .int 0), (2, .int wt_4), (3, .int r_6), (4, .int v4_14)]) hx hb dX4_number_164 hl (by decide) rfl (fun ls hl => ?_)
              refine lv_iload_n hx hb dX4_number_166 rfl (lv_at hl 3 rfl) ?_
              refine lv_istore (lv' := [(7, .int wt_4), (5, .long 0), (0, .ref r0), (1, .int 0), (2, .int wt_4), (3, .int r_6), (4, .int v4_14)]) hx hb dX4_number_167 hl (by decide) rfl (fun ls hl => ?_)
              have L169 : ∀ (N : Nat) (v5_15 : Int64) (v7_15 : Int32) (H_15 : Heap) (locs_15 : List Loc), jSt (dC, dI) B base G0 G0 EX4_numberP s.heap 0 0 [(r0, 6, 11, .int wt_14), (r0, 6, 9, .ref rb), (r0, 6, 10, .int pe), (r0, 6, 7, .int pv), (r0, 6, 8, .int pu), (r0, 6, 0, .ref wk), (r0, 6, 1, .ref wi), (r0, 6, 2, .ref wz), (r0, 6, 4, .ref jkf), (r0, 6, 5, .ref jks)] [(wk, 140, 1502, ca 1, fk), (wi, 141, 1502, ca 1, fi), (wz, 142, 1502, ca 1, fz), (jkf, 144, 1502, ca 1, fa), (jks, 145, 1502, ca 1, fs)] [] H_15 locs_15 → (wt_4.toInt ≤ v7_15.toInt ∧ v7_15.toInt ≤ wt_4.toInt + r_6.toInt) → (wt_4.toInt + r_6.toInt - v7_15.toInt : Int) < N → ∀ ls : Array Slot, lv_has ls 8 [(0, .ref r0), (1, .int 0), (2, .int wt_4), (3, .int r_6), (4, .int v4_14), (5, .long v5_15), (7, .int v7_15)] → W p l e R s m ([.ref r0] : List Value).toArray below meth c H_15 locs_15 0 0 Q (F0 m 169 ls []) := by
                intro N
                induction N with
                | zero => intro v5_15 v7_15 H_15 locs_15 hh_15  hi_15 hm; exact absurd hm (by omega)
                | succ N L169 =>
                  intro v5_15 v7_15 H_15 locs_15 hh_15  hi_15 hm_15 ls hl
                  obtain ⟨hi_15_0, hi_15_1⟩ := hi_15
                  refine lv_iload hx hb dX4_number_169 (lv_at hl 6 rfl) ?_
                  refine lv_iload_n hx hb dX4_number_171 rfl (lv_at hl 2 rfl) ?_
                  refine lv_iload_n hx hb dX4_number_172 rfl (lv_at hl 3 rfl) ?_
                  refine lv_iadd hx hb dX4_number_173 ?_
                  refine lv_topi (fun z_16 ez_16 => ?_)
                  have hz_16 : z_16.toInt = wt_4.toInt + r_6.toInt := by rw [ez_16]; exact jb_iadd2 (rfl) (rfl) (by omega)
                  have C213 : ∀ (v5_17 : Int64) (v7_17 : Int32) (H_17 : Heap) (locs_17 : List Loc), jSt (dC, dI) B base G0 G0 EX4_numberP s.heap 0 0 [(r0, 6, 11, .int wt_14), (r0, 6, 9, .ref rb), (r0, 6, 10, .int pe), (r0, 6, 7, .int pv), (r0, 6, 8, .int pu), (r0, 6, 0, .ref wk), (r0, 6, 1, .ref wi), (r0, 6, 2, .ref wz), (r0, 6, 4, .ref jkf), (r0, 6, 5, .ref jks)] [(wk, 140, 1502, ca 1, fk), (wi, 141, 1502, ca 1, fi), (wz, 142, 1502, ca 1, fz), (jkf, 144, 1502, ca 1, fa), (jks, 145, 1502, ca 1, fs)] [] H_17 locs_17 → (True) → ∀ ls : Array Slot, lv_has ls 8 [(0, .ref r0), (1, .int 0), (2, .int wt_4), (3, .int r_6), (4, .int v4_14), (5, .long v5_17), (7, .int v7_17)] → W p l e R s m ([.ref r0] : List Value).toArray below meth c H_17 locs_17 0 0 Q (F0 m 213 ls []) := by
                    intro v5_17 v7_17 H_17 locs_17 hh_17  hi_17 ls hl
                    refine lv_iload_n hx hb dX4_number_213 rfl (lv_at hl 1 rfl) ?_
                    refine lv_if_eq (tgt := 223) hx hb dX4_number_214 (by decide) (fun c_18 => ?_) (fun c_18 => ?_)
                    · skip
                      refine lv_lload hx hb dX4_number_223 (lv_at hl 5 rfl) ?_
                      refine lv_lstore (lv' := [(5, .long v5_17), (0, .ref r0), (1, .int 0), (2, .int wt_4), (3, .int r_6), (4, .int v4_14), (7, .int v7_17)]) hx hb dX4_number_225 hl (by decide) rfl (fun ls hl => ?_)
                      refine lv_iload hx hb dX4_number_227 (lv_at hl 5 rfl) ?_
                      have C255 : ∀ (w0_19 : Int32) (H_19 : Heap) (locs_19 : List Loc), jSt (dC, dI) B base G0 G0 EX4_numberP s.heap 0 0 [(r0, 6, 11, .int wt_14), (r0, 6, 9, .ref rb), (r0, 6, 10, .int pe), (r0, 6, 7, .int pv), (r0, 6, 8, .int pu), (r0, 6, 0, .ref wk), (r0, 6, 1, .ref wi), (r0, 6, 2, .ref wz), (r0, 6, 4, .ref jkf), (r0, 6, 5, .ref jks)] [(wk, 140, 1502, ca 1, fk), (wi, 141, 1502, ca 1, fi), (wz, 142, 1502, ca 1, fz), (jkf, 144, 1502, ca 1, fa), (jks, 145, 1502, ca 1, fs)] [] H_19 locs_19 → (w0_19 = 0 ∨ w0_19 = 1) → (True) → ∀ ls : Array Slot, lv_has ls 8 [(0, .ref r0), (1, .int 0), (2, .int wt_4), (3, .int r_6), (4, .int v4_14), (5, .long v5_17), (7, .int v7_17)] → W p l e R s m ([.ref r0] : List Value).toArray below meth c H_19 locs_19 0 0 Q (F0 m 255 ls [.int w0_19]) := by
                        intro w0_19 H_19 locs_19 hh_19 hb_w0_19 hi_19 ls hl
                        have hb_w0_19' := jb_01 hb_w0_19
                        refine lv_istore (lv' := [(4, .int w0_19), (0, .ref r0), (1, .int 0), (2, .int wt_4), (3, .int r_6), (5, .long v5_17), (7, .int v7_17)]) hx hb dX4_number_255 hl (by decide) rfl (fun ls hl => ?_)
                        refine lv_iload hx hb dX4_number_257 (lv_at hl 0 rfl) ?_
                        refine lv_if_eq (tgt := 274) hx hb dX4_number_259 (by decide) (fun c_20 => ?_) (fun c_20 => ?_)
                        · skip
                          have c_20' : w0_19.toInt = 0 := jb_eq (rfl) ((by decide)) c_20
                          refine lv_aload_n hx hb dX4_number_274 rfl (lv_at hl 1 rfl) ?_
                          refine lv_iconst (v := 5) hx hb dX4_number_275 (by decide) ?_
                          refine lv_iconst (v := 0) hx hb dX4_number_276 (by decide) ?_
                          refine lv_iconst (v := 0) hx hb dX4_number_277 (by decide) ?_
                          refine va_calli (A0 := jA base) (H0 := s.heap) (va_runV (As := [.int 5, .int 0, .int 0]) (rest := []) ⟨hx, hb, hml, hown, hts⟩ (uX4_makeP l dC dI ca base B hB hAp hB6 hB140 hB141 hB142 hB143 hB144 hB145 G0 H_19 r0 5 0 0 pv wk wi wz jkf jks fk fi fz fa fs) (cwV 3 hts (jgV (jWr_22 _ (List.mem_of_getElem? (i := 10) rfl)) (jWr_22 _ (List.mem_of_getElem? (i := 11) rfl)) (jWr_22 _ (List.mem_of_getElem? (i := 12) rfl)) (jWr_1 _ (List.mem_of_getElem? (i := 22) rfl)) (jWr_22 _ (List.mem_of_getElem? (i := 13) rfl))) rfl rfl rfl (by decide +kernel) ⟨by rw [← hR]; exact Nat.le_of_ble_eq_true rfl, by rw [← hR]; exact Nat.le_of_ble_eq_true rfl⟩) ⟨fun a U g mk q => by obtain ⟨q0, q1, q2, qK, q10, q11, q12, q13, q14, q15, q16, q17, q18⟩ := q; exact ⟨q0, q1, q2, jG.calling g mk a qK, q10, q11, q12, q13, q14, q15, q16, q17, q18⟩, hh_19.recv (C := RX4) (T := TX4) (N := 12) hB6 rfl (by decide) hg_r0 hK, fun U hU hW => ⟨rfl, hU, hh_19.2.1, hG.step hW hU hh_19.1, hg_r0, hg_wk, hg_wi, hg_wz, hg_jkf, hg_jks, (hh_19.2.2.1.sub (L1 := [(r0, 6, 7, .int pv), (r0, 6, 0, .ref wk), (r0, 6, 1, .ref wi), (r0, 6, 2, .ref wz), (r0, 6, 4, .ref jkf), (r0, 6, 5, .ref jks)]) [3, 5, 6, 7, 8, 9] rfl), (hh_19.2.2.2.2.2.2.2.1.sub (L1 := [(wk, 140, 1502, ca 1, fk), (wi, 141, 1502, ca 1, fi), (wz, 142, 1502, ca 1, fz), (jkf, 144, 1502, ca 1, fa), (jks, 145, 1502, ca 1, fs)]) [0, 1, 2, 3, 4] rfl), by first | omega | (refine ⟨?_, ?_⟩ <;> (first | omega | rfl | assumption | decide | exact Or.inl rfl | exact Or.inr rfl | (simp only; omega)))⟩⟩ rfl rfl hl.1 rfl (lv_room (Nat.le_of_ble_eq_true rfl)) dX4_number_278 ⟨Nat.zero_le _, Nat.zero_le _⟩) hh_19.1 (fun q _ h => h) (fun q h => h) (fun r_22 u_21 t_21 H_21 locs_21 ht_21 hvm_21 hr_22 hb_21 hz_21 hk_21 hS_21 => ?_)
                          obtain ⟨qv_21, gk_21, gi_21, gz_21, ga_21, gs_21⟩ := u_21
                          rw [ht_21] at hb_21
                          obtain ⟨⟨hb_211, hb_212, hb_213, hb_214, hb_215⟩, hb_216⟩ := hb_21
                          have hh_21 : jSt (dC, dI) B base G0 G0 EX4_numberP s.heap 0 0 [(r0, 6, 7, .int qv_21), (r0, 6, 11, .int wt_14), (r0, 6, 9, .ref rb), (r0, 6, 10, .int pe), (r0, 6, 8, .int pu), (r0, 6, 0, .ref wk), (r0, 6, 1, .ref wi), (r0, 6, 2, .ref wz), (r0, 6, 4, .ref jkf), (r0, 6, 5, .ref jks)] [(wk, 140, 1502, ca 1, gk_21), (wi, 141, 1502, ca 1, gi_21), (wz, 142, 1502, ca 1, gz_21), (jkf, 144, 1502, ca 1, ga_21), (jks, 145, 1502, ca 1, gs_21)] [] H_21 locs_21 := ((hh_19.call hb_211 hb_212 hb_213 hb_214 hS_21 rfl (L1 := [(r0, 6, 11, .int wt_14), (r0, 6, 9, .ref rb), (r0, 6, 10, .int pe), (r0, 6, 8, .int pu), (r0, 6, 0, .ref wk), (r0, 6, 1, .ref wi), (r0, 6, 2, .ref wz), (r0, 6, 4, .ref jkf), (r0, 6, 5, .ref jks)]) [0, 1, 2, 4, 5, 6, 7, 8, 9] rfl rfl (M1 := []) [] rfl rfl (I1 := []) [] rfl rfl).more hb_215).moreM hb_216
                          clear hh_19 ht_21 hvm_21 hz_21 hk_21 hS_21 hb_211 hb_212 hb_213 hb_214 hb_215
                          clear hb_216
                          try simp only at hr_22
                          obtain ⟨hr_22_0, hr_22_1, hr_22_2, hr_22_3⟩ := hr_22
                          rw [hQ]
                          exact W.iret (v := r_22) hx hb hr (fun t ht hW => ⟨⟨r_22, (wt_14, qv_21, pu, gk_21, gi_21, gz_21, ga_21, gs_21), rfl, by (try dsimp only); refine ⟨by omega, by omega, by omega, by omega, by omega, by omega, ?_⟩; exact jVr.mk hr_22_2 hr_22_0 hr_22_3 (by omega) (by omega) (by omega) (fun h9 => by omega) (by omega), ⟨hh_21.rt (M1 := [(r0, 6, 11, .int wt_14), (r0, 6, 7, .int qv_21), (r0, 6, 8, .int pu)]) [1, 0, 4] rfl ht, by rw [ht]; exact hh_21.2.2.2.2.2.2.2.1.sub [0, 1, 2, 3, 4] rfl⟩⟩, by rw [ht]; try exact hh_21.1.1, fun q h9 hq => by rw [ht]; try exact hh_21.1.2.1 q h9 hq⟩) hh_21.1.2.2 dX4_number_281
                        · skip
                          have c_20' : w0_19.toInt ≠ 0 := jb_eq_n (rfl) ((by decide)) c_20
                          refine lv_aload_n hx hb dX4_number_262 rfl (lv_at hl 1 rfl) ?_
                          refine lv_iconst (v := 4) hx hb dX4_number_263 (by decide) ?_
                          refine lv_lload hx hb dX4_number_264 (lv_at hl 5 rfl) ?_
                          refine lv_l2i hx hb dX4_number_266 rfl ?_
                          refine lv_topi (fun z_23 ez_23 => ?_)
                          refine lv_iconst (v := 0) hx hb dX4_number_267 (by decide) ?_
                          refine va_calli (A0 := jA base) (H0 := s.heap) (va_runV (As := [.int 4, .int z_23, .int 0]) (rest := []) ⟨hx, hb, hml, hown, hts⟩ (uX4_makeP l dC dI ca base B hB hAp hB6 hB140 hB141 hB142 hB143 hB144 hB145 G0 H_19 r0 4 z_23 0 pv wk wi wz jkf jks fk fi fz fa fs) (cwV 3 hts (jgV (jWr_22 _ (List.mem_of_getElem? (i := 10) rfl)) (jWr_22 _ (List.mem_of_getElem? (i := 11) rfl)) (jWr_22 _ (List.mem_of_getElem? (i := 12) rfl)) (jWr_1 _ (List.mem_of_getElem? (i := 22) rfl)) (jWr_22 _ (List.mem_of_getElem? (i := 13) rfl))) rfl rfl rfl (by decide +kernel) ⟨by rw [← hR]; exact Nat.le_of_ble_eq_true rfl, by rw [← hR]; exact Nat.le_of_ble_eq_true rfl⟩) ⟨fun a U g mk q => by obtain ⟨q0, q1, q2, qK, q10, q11, q12, q13, q14, q15, q16, q17, q18⟩ := q; exact ⟨q0, q1, q2, jG.calling g mk a qK, q10, q11, q12, q13, q14, q15, q16, q17, q18⟩, hh_19.recv (C := RX4) (T := TX4) (N := 12) hB6 rfl (by decide) hg_r0 hK, fun U hU hW => ⟨rfl, hU, hh_19.2.1, hG.step hW hU hh_19.1, hg_r0, hg_wk, hg_wi, hg_wz, hg_jkf, hg_jks, (hh_19.2.2.1.sub (L1 := [(r0, 6, 7, .int pv), (r0, 6, 0, .ref wk), (r0, 6, 1, .ref wi), (r0, 6, 2, .ref wz), (r0, 6, 4, .ref jkf), (r0, 6, 5, .ref jks)]) [3, 5, 6, 7, 8, 9] rfl), (hh_19.2.2.2.2.2.2.2.1.sub (L1 := [(wk, 140, 1502, ca 1, fk), (wi, 141, 1502, ca 1, fi), (wz, 142, 1502, ca 1, fz), (jkf, 144, 1502, ca 1, fa), (jks, 145, 1502, ca 1, fs)]) [0, 1, 2, 3, 4] rfl), by first | omega | (refine ⟨?_, ?_⟩ <;> (first | omega | rfl | assumption | decide | exact Or.inl rfl | exact Or.inr rfl | (simp only; omega)))⟩⟩ rfl rfl hl.1 rfl (lv_room (Nat.le_of_ble_eq_true rfl)) dX4_number_268 ⟨Nat.zero_le _, Nat.zero_le _⟩) hh_19.1 (fun q _ h => h) (fun q h => h) (fun r_25 u_24 t_24 H_24 locs_24 ht_24 hvm_24 hr_25 hb_24 hz_24 hk_24 hS_24 => ?_)
                          obtain ⟨qv_24, gk_24, gi_24, gz_24, ga_24, gs_24⟩ := u_24
                          rw [ht_24] at hb_24
                          obtain ⟨⟨hb_241, hb_242, hb_243, hb_244, hb_245⟩, hb_246⟩ := hb_24
                          have hh_24 : jSt (dC, dI) B base G0 G0 EX4_numberP s.heap 0 0 [(r0, 6, 7, .int qv_24), (r0, 6, 11, .int wt_14), (r0, 6, 9, .ref rb), (r0, 6, 10, .int pe), (r0, 6, 8, .int pu), (r0, 6, 0, .ref wk), (r0, 6, 1, .ref wi), (r0, 6, 2, .ref wz), (r0, 6, 4, .ref jkf), (r0, 6, 5, .ref jks)] [(wk, 140, 1502, ca 1, gk_24), (wi, 141, 1502, ca 1, gi_24), (wz, 142, 1502, ca 1, gz_24), (jkf, 144, 1502, ca 1, ga_24), (jks, 145, 1502, ca 1, gs_24)] [] H_24 locs_24 := ((hh_19.call hb_241 hb_242 hb_243 hb_244 hS_24 rfl (L1 := [(r0, 6, 11, .int wt_14), (r0, 6, 9, .ref rb), (r0, 6, 10, .int pe), (r0, 6, 8, .int pu), (r0, 6, 0, .ref wk), (r0, 6, 1, .ref wi), (r0, 6, 2, .ref wz), (r0, 6, 4, .ref jkf), (r0, 6, 5, .ref jks)]) [0, 1, 2, 4, 5, 6, 7, 8, 9] rfl rfl (M1 := []) [] rfl rfl (I1 := []) [] rfl rfl).more hb_245).moreM hb_246
                          clear hh_19 ht_24 hvm_24 hz_24 hk_24 hS_24 hb_241 hb_242 hb_243 hb_244 hb_245
                          clear hb_246
                          try simp only at hr_25
                          obtain ⟨hr_25_0, hr_25_1, hr_25_2, hr_25_3⟩ := hr_25
                          refine lv_goto (tgt := 281) hx hb dX4_number_271 (by decide) ?_
                          rw [hQ]
                          exact W.iret (v := r_25) hx hb hr (fun t ht hW => ⟨⟨r_25, (wt_14, qv_24, pu, gk_24, gi_24, gz_24, ga_24, gs_24), rfl, by (try dsimp only); refine ⟨by omega, by omega, by omega, by omega, by omega, by omega, ?_⟩; exact jVr.mk hr_25_2 hr_25_0 hr_25_3 (by omega) (by omega) (by omega) (fun h9 => by omega) (by omega), ⟨hh_24.rt (M1 := [(r0, 6, 11, .int wt_14), (r0, 6, 7, .int qv_24), (r0, 6, 8, .int pu)]) [1, 0, 4] rfl ht, by rw [ht]; exact hh_24.2.2.2.2.2.2.2.1.sub [0, 1, 2, 3, 4] rfl⟩⟩, by rw [ht]; try exact hh_24.1.1, fun q h9 hq => by rw [ht]; try exact hh_24.1.2.1 q h9 hq⟩) hh_24.1.2.2 dX4_number_281
                      refine lv_if_eq (tgt := 254) hx hb dX4_number_229 (by decide) (fun c_26 => ?_) (fun c_26 => ?_)
                      · skip
                        have c_26' : v4_14.toInt = 0 := jb_eq (rfl) ((by decide)) c_26
                        refine lv_iconst (v := 0) hx hb dX4_number_254 (by decide) ?_
                        exact C255 0 _ _ hh_17 (Or.inl rfl) (trivial) _ (lv_sub hl [1, 2, 3, 4, 5, 0, 6] rfl)
                      · skip
                        have c_26' : v4_14.toInt ≠ 0 := jb_eq_n (rfl) ((by decide)) c_26
                        refine lv_lload hx hb dX4_number_232 (lv_at hl 0 rfl) ?_
                        refine lv_ldc2 hx hb hown (htw (.constantLong RX4 136 (-2147483648)) (jWr_22 _ (List.mem_of_getElem? (i := 23) rfl))) dX4_number_234 ?_
                        refine W.lcmp hx hb dX4_number_237 ?_
                        refine lv_topi (fun z_27 ez_27 => ?_)
                        have hz_27 := jb_lcmp ez_27
                        have hqz_27_m2147483648 : ((-2147483648) : Int64).toInt = (-2147483648) := by decide
                        refine lv_if_lt (tgt := 254) hx hb dX4_number_238 (by decide) (fun c_28 => ?_) (fun c_28 => ?_)
                        · skip
                          have c_28' : z_27.toInt < 0 := jb_lt (rfl) ((by decide)) c_28
                          refine lv_iconst (v := 0) hx hb dX4_number_254 (by decide) ?_
                          exact C255 0 _ _ hh_17 (Or.inl rfl) (trivial) _ (lv_sub hl [1, 2, 3, 4, 5, 0, 6] rfl)
                        · skip
                          have c_28' : z_27.toInt ≥ 0 := jb_lt_n (rfl) ((by decide)) c_28
                          refine lv_lload hx hb dX4_number_241 (lv_at hl 0 rfl) ?_
                          refine lv_ldc2 hx hb hown (htw (.constantLong RX4 138 2147483647) (jWr_23 _ (List.mem_of_getElem? (i := 0) rfl))) dX4_number_243 ?_
                          refine W.lcmp hx hb dX4_number_246 ?_
                          refine lv_topi (fun z_29 ez_29 => ?_)
                          have hz_29 := jb_lcmp ez_29
                          have hqz_29_2147483647 : (2147483647 : Int64).toInt = 2147483647 := by decide
                          refine lv_if_gt (tgt := 254) hx hb dX4_number_247 (by decide) (fun c_30 => ?_) (fun c_30 => ?_)
                          · skip
                            have c_30' : z_29.toInt > 0 := jb_gt (rfl) ((by decide)) c_30
                            refine lv_iconst (v := 0) hx hb dX4_number_254 (by decide) ?_
                            exact C255 0 _ _ hh_17 (Or.inl rfl) (trivial) _ (lv_sub hl [1, 2, 3, 4, 5, 0, 6] rfl)
                          · skip
                            have c_30' : z_29.toInt ≤ 0 := jb_gt_n (rfl) ((by decide)) c_30
                            refine lv_iconst (v := 1) hx hb dX4_number_250 (by decide) ?_
                            refine lv_goto (tgt := 255) hx hb dX4_number_251 (by decide) ?_
                            exact C255 1 _ _ hh_17 (Or.inr rfl) (trivial) _ (lv_sub hl [1, 2, 3, 4, 5, 0, 6] rfl)
                    · skip
                      exact absurd c_18 (by decide)
                  refine lv_icmp_ge (tgt := 213) hx hb dX4_number_174 (by decide) (fun c_31 => ?_) (fun c_31 => ?_)
                  · skip
                    have c_31' : v7_15.toInt ≥ z_16.toInt := jb_ge (rfl) (rfl) c_31
                    exact C213 v5_15 v7_15 _ _ hh_15 (trivial) _ (lv_sub hl [0, 1, 2, 3, 4, 5, 6] rfl)
                  · skip
                    have c_31' : v7_15.toInt < z_16.toInt := jb_ge_n (rfl) (rfl) c_31
                    refine lv_lload hx hb dX4_number_177 (lv_at hl 5 rfl) ?_
                    refine lv_ldc2 hx hb hown (htw (.constantLong RX4 130 2147483648) (jWr_22 _ (List.mem_of_getElem? (i := 20) rfl))) dX4_number_179 ?_
                    refine W.lcmp hx hb dX4_number_182 ?_
                    refine lv_topi (fun z_32 ez_32 => ?_)
                    have hz_32 := jb_lcmp ez_32
                    have hqz_32_2147483648 : (2147483648 : Int64).toInt = 2147483648 := by decide
                    refine lv_if_gt (tgt := 213) hx hb dX4_number_183 (by decide) (fun c_33 => ?_) (fun c_33 => ?_)
                    · skip
                      have c_33' : z_32.toInt > 0 := jb_gt (rfl) ((by decide)) c_33
                      exact C213 v5_15 v7_15 _ _ hh_15 (trivial) _ (lv_sub hl [0, 1, 2, 3, 4, 5, 6] rfl)
                    · skip
                      have c_33' : z_32.toInt ≤ 0 := jb_gt_n (rfl) ((by decide)) c_33
                      refine lv_lload hx hb dX4_number_186 (lv_at hl 5 rfl) ?_
                      refine lv_ldc2 hx hb hown (htw (.constantLong RX4 132 10) (jWr_22 _ (List.mem_of_getElem? (i := 21) rfl))) dX4_number_188 ?_
                      refine lv_lmul hx hb dX4_number_191 ?_
                      refine lv_topl (fun z_34 ez_34 => ?_)
                      refine lv_aload_n hx hb dX4_number_192 rfl (lv_at hl 0 rfl) ?_
                      refine j7_read hx hb hown hK (C := RX4) (T := TX4) (N := 12) rfl hly_6_9 hlk_33 (hh_15.at 1 rfl) dX4_number_193 ?_
                      refine lv_iload hx hb dX4_number_196 (lv_at hl 6 rfl) ?_
                      refine j7_bald hx hb hK hh_15 hB100 0 rfl (by decide) hg_rb (x := v7_15.toInt) (rfl) (by omega) dX4_number_198 (fun z_35 (hz_35 : True) => ?_)
                      refine lv_i2l hx hb dX4_number_199 rfl ?_
                      refine lv_topl (fun z_36 ez_36 => ?_)
                      refine lv_ladd hx hb dX4_number_200 ?_
                      refine lv_topl (fun z_37 ez_37 => ?_)
                      refine lv_ldc2 hx hb hown (htw (.constantLong RX4 134 48) (jWr_22 _ (List.mem_of_getElem? (i := 22) rfl))) dX4_number_201 ?_
                      refine lv_lsub hx hb dX4_number_204 ?_
                      refine lv_topl (fun z_38 ez_38 => ?_)
                      refine lv_lstore (lv' := [(5, .long z_38), (0, .ref r0), (1, .int 0), (2, .int wt_4), (3, .int r_6), (4, .int v4_14), (7, .int v7_15)]) hx hb dX4_number_205 hl (by decide) rfl (fun ls hl => ?_)
                      obtain ⟨z_39, ez_39⟩ : ∃ y : Int32, y = v7_15 + 1 := ⟨_, rfl⟩
                      refine lv_iinc (v := z_39) (lv' := [(7, .int z_39), (5, .long z_38), (0, .ref r0), (1, .int 0), (2, .int wt_4), (3, .int r_6), (4, .int v4_14)]) hx hb dX4_number_207 hl (k := 6) rfl (by rw [ez_39]; rfl) (by decide) rfl (fun ls hl => ?_)
                      have hz_39 : z_39.toInt = v7_15.toInt + 1 := by rw [ez_39]; exact jb_iadd2 (rfl) (by decide) (by omega)
                      refine lv_goto (tgt := 169) hx hb dX4_number_210 (by decide) ?_
                      exact L169 z_38 z_39 _ _ hh_15 (by first | omega | (refine ⟨?_, ?_⟩ <;> (first | omega | rfl | assumption | decide | exact Or.inl rfl | exact Or.inr rfl | (simp only; omega)))) (by omega) _ (lv_sub hl [2, 3, 4, 5, 6, 1, 0] rfl)
              exact L169 (wt_4.toInt + r_6.toInt - (wt_4 : Int32).toInt : Int).toNat.succ 0 wt_4 _ _ hh_14 (by first | omega | (refine ⟨?_, ?_⟩ <;> (first | omega | rfl | assumption | decide | exact Or.inl rfl | exact Or.inr rfl | (simp only; omega)))) (by omega) _ (lv_sub hl [2, 3, 4, 5, 6, 1, 0] rfl)
            refine lv_icmp_eq (tgt := 113) hx hb dX4_number_101 (by decide) (fun c_40 => ?_) (fun c_40 => ?_)
            · skip
              have c_40' : r_13.toInt = 101 := jb_eq (rfl) ((by decide)) c_40
              first | (have hr_13_2q := hr_13_2.resolve_left (by omega); clear hr_13_2) | (have hr_13_2q := hr_13_2.resolve_right (by omega); clear hr_13_2) | try clear hr_13_2
              refine lv_iconst (v := 0) hx hb dX4_number_113 (by decide) ?_
              refine lv_istore (lv' := [(4, .int 0), (0, .ref r0), (1, .int 0), (2, .int wt_4), (3, .int r_6)]) hx hb dX4_number_114 hl (by decide) rfl (fun ls hl => ?_)
              refine lv_aload_n hx hb dX4_number_116 rfl (lv_at hl 1 rfl) ?_
              refine lv_dup hx hb dX4_number_117 rfl ?_
              refine j7_read hx hb hown hK (C := RX4) (T := TX4) (N := 12) rfl hly_6_11 hlk_47 (hh_12.at 0 rfl) dX4_number_118 ?_
              refine lv_iconst (v := 1) hx hb dX4_number_121 (by decide) ?_
              refine lv_iadd hx hb dX4_number_122 ?_
              refine lv_topi (fun z_41 ez_41 => ?_)
              have hz_41 : z_41.toInt = wt_11.toInt + 1 := by rw [ez_41]; exact jb_iadd2 (rfl) ((by decide)) (by omega)
              refine j7_put hx hb hown hK hh_12 hB hAp hB6 (C := RX4) (T := TX4) (N := 12) rfl (by decide) hg_r0 (i := 11) (by decide) hly_6_11 rfl hlk_47 rfl (ty := .int) (v := .int z_41) (by decide +kernel) rfl rfl (⟨_, rfl, by omega, by omega⟩) rfl (L1 := [(r0, 6, 9, .ref rb), (r0, 6, 10, .int pe), (r0, 6, 7, .int pv), (r0, 6, 8, .int pu), (r0, 6, 0, .ref wk), (r0, 6, 1, .ref wi), (r0, 6, 2, .ref wz), (r0, 6, 4, .ref jkf), (r0, 6, 5, .ref jks)]) [1, 2, 3, 4, 5, 6, 7, 8, 9] rfl rfl rfl dX4_number_123 (fun H_42 locs_42 hh_42 => ?_)
              clear hh_12
              refine lv_aload_n hx hb dX4_number_126 rfl (lv_at hl 1 rfl) ?_
              refine va_calli (A0 := jA base) (H0 := s.heap) (va_runV (As := []) (rest := []) ⟨hx, hb, hml, hown, hts⟩ (uX4_peek l dC dI ca base B hB hAp hB6 hB100 G0 H_42 r0 rb n_rb pe z_41) (cwV 0 hts (jgV (jWr_19 _ (List.mem_of_getElem? (i := 19) rfl)) (jWr_19 _ (List.mem_of_getElem? (i := 20) rfl)) (jWr_19 _ (List.mem_of_getElem? (i := 21) rfl)) (jWr_1 _ (List.mem_of_getElem? (i := 22) rfl)) (jWr_19 _ (List.mem_of_getElem? (i := 22) rfl))) rfl rfl rfl (by decide +kernel) ⟨by rw [← hR]; exact Nat.le_of_ble_eq_true rfl, by rw [← hR]; exact Nat.le_of_ble_eq_true rfl⟩) ⟨fun a U g mk q => by obtain ⟨q0, q1, q2, qK, q10, q11, q12, q13⟩ := q; exact ⟨q0, q1, q2, jG.calling g mk a qK, q10, q11, q12, q13⟩, hh_42.recv (C := RX4) (T := TX4) (N := 12) hB6 rfl (by decide) hg_r0 hK, fun U hU hW => ⟨rfl, hU, hh_42.2.1, hG.step hW hU hh_42.1, hg_r0, hg_rb, (hh_42.2.2.1.sub (L1 := [(r0, 6, 9, .ref rb), (r0, 6, 10, .int pe), (r0, 6, 11, .int z_41)]) [1, 2, 0] rfl), by first | omega | (refine ⟨?_, ?_, ?_, ?_, ?_⟩ <;> (first | omega | rfl | assumption | decide | exact Or.inl rfl | exact Or.inr rfl | (simp only; omega)))⟩⟩ rfl rfl hl.1 rfl (lv_room (Nat.le_of_ble_eq_true rfl)) dX4_number_127 ⟨Nat.zero_le _, Nat.zero_le _⟩) hh_42.1 (fun q _ h => h) (fun q h => h) (fun r_44 u_43 t_43 H_43 locs_43 ht_43 hvm_43 hr_44 hb_43 hz_43 hk_43 hS_43 => ?_)
              rw [ht_43] at hb_43
              obtain ⟨hb_431, hb_432, hb_433, hb_434, hb_435⟩ := hb_43
              have hh_43 : jSt (dC, dI) B base G0 G0 EX4_numberP s.heap 0 0 [(r0, 6, 11, .int z_41), (r0, 6, 9, .ref rb), (r0, 6, 10, .int pe), (r0, 6, 7, .int pv), (r0, 6, 8, .int pu), (r0, 6, 0, .ref wk), (r0, 6, 1, .ref wi), (r0, 6, 2, .ref wz), (r0, 6, 4, .ref jkf), (r0, 6, 5, .ref jks)] [(wk, 140, 1502, ca 1, fk), (wi, 141, 1502, ca 1, fi), (wz, 142, 1502, ca 1, fz), (jkf, 144, 1502, ca 1, fa), (jks, 145, 1502, ca 1, fs)] [] H_43 locs_43 := ((hh_42.call hb_431 hb_432 hb_433 hb_434 hS_43 rfl (L1 := [(r0, 6, 11, .int z_41), (r0, 6, 9, .ref rb), (r0, 6, 10, .int pe), (r0, 6, 7, .int pv), (r0, 6, 8, .int pu), (r0, 6, 0, .ref wk), (r0, 6, 1, .ref wi), (r0, 6, 2, .ref wz), (r0, 6, 4, .ref jkf), (r0, 6, 5, .ref jks)]) [0, 1, 2, 3, 4, 5, 6, 7, 8, 9] rfl rfl (M1 := [(wk, 140, 1502, ca 1, fk), (wi, 141, 1502, ca 1, fi), (wz, 142, 1502, ca 1, fz), (jkf, 144, 1502, ca 1, fa), (jks, 145, 1502, ca 1, fs)]) [0, 1, 2, 3, 4] rfl rfl (I1 := []) [] rfl rfl).more hb_435)
              clear hh_42 ht_43 hvm_43 hz_43 hk_43 hS_43 hb_431 hb_432 hb_433 hb_434 hb_435
              obtain ⟨hr_44_0, hr_44_1, hr_44_2⟩ := hr_44
              refine lv_bipush (v := 43) hx hb dX4_number_130 (by decide) ?_
              have C154 : ∀ (wt_45 : Int32) (H_45 : Heap) (locs_45 : List Loc), jSt (dC, dI) B base G0 G0 EX4_numberP s.heap 0 0 [(r0, 6, 11, .int wt_45), (r0, 6, 9, .ref rb), (r0, 6, 10, .int pe), (r0, 6, 7, .int pv), (r0, 6, 8, .int pu), (r0, 6, 0, .ref wk), (r0, 6, 1, .ref wi), (r0, 6, 2, .ref wz), (r0, 6, 4, .ref jkf), (r0, 6, 5, .ref jks)] [(wk, 140, 1502, ca 1, fk), (wi, 141, 1502, ca 1, fi), (wz, 142, 1502, ca 1, fz), (jkf, 144, 1502, ca 1, fa), (jks, 145, 1502, ca 1, fs)] [] H_45 locs_45 → (pt.toInt ≤ wt_45.toInt ∧ wt_45.toInt ≤ pe.toInt ∧ z_41.toInt ≤ wt_45.toInt ∧ pt.toInt + 1 ≤ wt_45.toInt) → ∀ ls : Array Slot, lv_has ls 8 [(0, .ref r0), (1, .int 0), (2, .int wt_4), (3, .int r_6), (4, .int 0)] → W p l e R s m ([.ref r0] : List Value).toArray below meth c H_45 locs_45 0 0 Q (F0 m 154 ls []) := by
                intro wt_45 H_45 locs_45 hh_45  hi_45 ls hl
                obtain ⟨hi_45_0, hi_45_1, hi_45_2, hi_45_3⟩ := hi_45
                try clear hr_44_2
                refine lv_aload_n hx hb dX4_number_154 rfl (lv_at hl 0 rfl) ?_
                refine va_calli (A0 := jA base) (H0 := s.heap) (va_runV (As := []) (rest := []) ⟨hx, hb, hml, hown, hts⟩ (uX4_digits l dC dI ca base B hB hAp hB6 hB100 G0 H_45 r0 rb n_rb pe wt_45) (cwV 0 hts (jgV (jWr_23 _ (List.mem_of_getElem? (i := 1) rfl)) (jWr_23 _ (List.mem_of_getElem? (i := 2) rfl)) (jWr_23 _ (List.mem_of_getElem? (i := 3) rfl)) (jWr_1 _ (List.mem_of_getElem? (i := 22) rfl)) (jWr_23 _ (List.mem_of_getElem? (i := 4) rfl))) rfl rfl rfl (by decide +kernel) ⟨by rw [← hR]; exact Nat.le_of_ble_eq_true rfl, by rw [← hR]; exact Nat.le_of_ble_eq_true rfl⟩) ⟨fun a U g mk q => by obtain ⟨q0, q1, q2, qK, q10, q11, q12, q13⟩ := q; exact ⟨q0, q1, q2, jG.calling g mk a qK, q10, q11, q12, q13⟩, hh_45.recv (C := RX4) (T := TX4) (N := 12) hB6 rfl (by decide) hg_r0 hK, fun U hU hW => ⟨rfl, hU, hh_45.2.1, hG.step hW hU hh_45.1, hg_r0, hg_rb, (hh_45.2.2.1.sub (L1 := [(r0, 6, 9, .ref rb), (r0, 6, 10, .int pe), (r0, 6, 11, .int wt_45)]) [1, 2, 0] rfl), by first | omega | (refine ⟨?_, ?_, ?_, ?_, ?_, ?_⟩ <;> (first | omega | rfl | assumption | decide | exact Or.inl rfl | exact Or.inr rfl | (simp only; omega)))⟩⟩ rfl rfl hl.1 rfl (lv_room (Nat.le_of_ble_eq_true rfl)) dX4_number_155 ⟨Nat.zero_le _, Nat.zero_le _⟩) hh_45.1 (fun q _ h => h) (fun q h => h) (fun r_47 u_46 t_46 H_46 locs_46 ht_46 hvm_46 hr_47 hb_46 hz_46 hk_46 hS_46 => ?_)
                obtain ⟨qt_46, rfl⟩ : ∃ z, z = u_46 := ⟨_, rfl⟩
                rw [ht_46] at hb_46
                obtain ⟨hb_461, hb_462, hb_463, hb_464, hb_465⟩ := hb_46
                have hh_46 : jSt (dC, dI) B base G0 G0 EX4_numberP s.heap 0 0 [(r0, 6, 11, .int qt_46), (r0, 6, 9, .ref rb), (r0, 6, 10, .int pe), (r0, 6, 7, .int pv), (r0, 6, 8, .int pu), (r0, 6, 0, .ref wk), (r0, 6, 1, .ref wi), (r0, 6, 2, .ref wz), (r0, 6, 4, .ref jkf), (r0, 6, 5, .ref jks)] [(wk, 140, 1502, ca 1, fk), (wi, 141, 1502, ca 1, fi), (wz, 142, 1502, ca 1, fz), (jkf, 144, 1502, ca 1, fa), (jks, 145, 1502, ca 1, fs)] [] H_46 locs_46 := ((hh_45.call hb_461 hb_462 hb_463 hb_464 hS_46 rfl (L1 := [(r0, 6, 9, .ref rb), (r0, 6, 10, .int pe), (r0, 6, 7, .int pv), (r0, 6, 8, .int pu), (r0, 6, 0, .ref wk), (r0, 6, 1, .ref wi), (r0, 6, 2, .ref wz), (r0, 6, 4, .ref jkf), (r0, 6, 5, .ref jks)]) [1, 2, 3, 4, 5, 6, 7, 8, 9] rfl rfl (M1 := [(wk, 140, 1502, ca 1, fk), (wi, 141, 1502, ca 1, fi), (wz, 142, 1502, ca 1, fz), (jkf, 144, 1502, ca 1, fa), (jks, 145, 1502, ca 1, fs)]) [0, 1, 2, 3, 4] rfl rfl (I1 := []) [] rfl rfl).more hb_465)
                clear hh_45 ht_46 hvm_46 hz_46 hk_46 hS_46 hb_461 hb_462 hb_463 hb_464 hb_465
                obtain ⟨hr_47_0, hr_47_1, hr_47_2⟩ := hr_47
                refine lv_if_ne (tgt := 163) hx hb dX4_number_158 (by decide) (fun c_48 => ?_) (fun c_48 => ?_)
                · skip
                  have c_48' : r_47.toInt ≠ 0 := jb_ne (rfl) ((by decide)) c_48
                  exact C163 0 qt_46 _ _ hh_46 (Or.inl rfl) (by first | omega | (refine ⟨?_, ?_, ?_, ?_⟩ <;> (first | omega | rfl | assumption | decide | exact Or.inl rfl | exact Or.inr rfl | (simp only; omega)))) _ (lv_sub hl [0, 1, 2, 3, 4] rfl)
                · skip
                  have c_48' : r_47.toInt = 0 := jb_ne_n (rfl) ((by decide)) c_48
                  refine lv_iconst (v := (-1)) hx hb dX4_number_161 (by decide) ?_
                  rw [hQ]
                  exact W.iret (v := (-1)) hx hb hr (fun t ht hW => ⟨⟨(-1), (qt_46, pv, pu, fk, fi, fz, fa, fs), rfl, by (try dsimp only); refine ⟨by omega, by omega, by omega, by omega, by omega, by omega, ?_⟩; exact jVr.no (by omega) (by omega) (by omega) (by omega), ⟨hh_46.rt (M1 := [(r0, 6, 11, .int qt_46), (r0, 6, 7, .int pv), (r0, 6, 8, .int pu)]) [0, 3, 4] rfl ht, by rw [ht]; exact hh_46.2.2.2.2.2.2.2.1.sub [0, 1, 2, 3, 4] rfl⟩⟩, by rw [ht]; try exact hh_46.1.1, fun q h9 hq => by rw [ht]; try exact hh_46.1.2.1 q h9 hq⟩) hh_46.1.2.2 dX4_number_162
              refine lv_icmp_eq (tgt := 144) hx hb dX4_number_132 (by decide) (fun c_49 => ?_) (fun c_49 => ?_)
              · skip
                have c_49' : r_44.toInt = 43 := jb_eq (rfl) ((by decide)) c_49
                first | (have hr_44_2q := hr_44_2.resolve_left (by omega); clear hr_44_2) | (have hr_44_2q := hr_44_2.resolve_right (by omega); clear hr_44_2) | try clear hr_44_2
                refine lv_aload_n hx hb dX4_number_144 rfl (lv_at hl 1 rfl) ?_
                refine lv_dup hx hb dX4_number_145 rfl ?_
                refine j7_read hx hb hown hK (C := RX4) (T := TX4) (N := 12) rfl hly_6_11 hlk_47 (hh_43.at 0 rfl) dX4_number_146 ?_
                refine lv_iconst (v := 1) hx hb dX4_number_149 (by decide) ?_
                refine lv_iadd hx hb dX4_number_150 ?_
                refine lv_topi (fun z_50 ez_50 => ?_)
                have hz_50 : z_50.toInt = z_41.toInt + 1 := by rw [ez_50]; exact jb_iadd2 (rfl) ((by decide)) (by omega)
                refine j7_put hx hb hown hK hh_43 hB hAp hB6 (C := RX4) (T := TX4) (N := 12) rfl (by decide) hg_r0 (i := 11) (by decide) hly_6_11 rfl hlk_47 rfl (ty := .int) (v := .int z_50) (by decide +kernel) rfl rfl (⟨_, rfl, by omega, by omega⟩) rfl (L1 := [(r0, 6, 9, .ref rb), (r0, 6, 10, .int pe), (r0, 6, 7, .int pv), (r0, 6, 8, .int pu), (r0, 6, 0, .ref wk), (r0, 6, 1, .ref wi), (r0, 6, 2, .ref wz), (r0, 6, 4, .ref jkf), (r0, 6, 5, .ref jks)]) [1, 2, 3, 4, 5, 6, 7, 8, 9] rfl rfl rfl dX4_number_151 (fun H_51 locs_51 hh_51 => ?_)
                clear hh_43
                exact C154 z_50 _ _ hh_51 (by first | omega | (refine ⟨?_, ?_, ?_, ?_⟩ <;> (first | omega | rfl | assumption | decide | exact Or.inl rfl | exact Or.inr rfl | (simp only; omega)))) _ (lv_sub hl [1, 2, 3, 4, 0] rfl)
              · skip
                have c_49' : r_44.toInt ≠ 43 := jb_eq_n (rfl) ((by decide)) c_49
                try clear hr_44_2
                refine lv_aload_n hx hb dX4_number_135 rfl (lv_at hl 1 rfl) ?_
                refine va_calli (A0 := jA base) (H0 := s.heap) (va_runV (As := []) (rest := []) ⟨hx, hb, hml, hown, hts⟩ (uX4_peek l dC dI ca base B hB hAp hB6 hB100 G0 H_43 r0 rb n_rb pe z_41) (cwV 0 hts (jgV (jWr_19 _ (List.mem_of_getElem? (i := 19) rfl)) (jWr_19 _ (List.mem_of_getElem? (i := 20) rfl)) (jWr_19 _ (List.mem_of_getElem? (i := 21) rfl)) (jWr_1 _ (List.mem_of_getElem? (i := 22) rfl)) (jWr_19 _ (List.mem_of_getElem? (i := 22) rfl))) rfl rfl rfl (by decide +kernel) ⟨by rw [← hR]; exact Nat.le_of_ble_eq_true rfl, by rw [← hR]; exact Nat.le_of_ble_eq_true rfl⟩) ⟨fun a U g mk q => by obtain ⟨q0, q1, q2, qK, q10, q11, q12, q13⟩ := q; exact ⟨q0, q1, q2, jG.calling g mk a qK, q10, q11, q12, q13⟩, hh_43.recv (C := RX4) (T := TX4) (N := 12) hB6 rfl (by decide) hg_r0 hK, fun U hU hW => ⟨rfl, hU, hh_43.2.1, hG.step hW hU hh_43.1, hg_r0, hg_rb, (hh_43.2.2.1.sub (L1 := [(r0, 6, 9, .ref rb), (r0, 6, 10, .int pe), (r0, 6, 11, .int z_41)]) [1, 2, 0] rfl), by first | omega | (refine ⟨?_, ?_, ?_, ?_, ?_⟩ <;> (first | omega | rfl | assumption | decide | exact Or.inl rfl | exact Or.inr rfl | (simp only; omega)))⟩⟩ rfl rfl hl.1 rfl (lv_room (Nat.le_of_ble_eq_true rfl)) dX4_number_136 ⟨Nat.zero_le _, Nat.zero_le _⟩) hh_43.1 (fun q _ h => h) (fun q h => h) (fun r_53 u_52 t_52 H_52 locs_52 ht_52 hvm_52 hr_53 hb_52 hz_52 hk_52 hS_52 => ?_)
                rw [ht_52] at hb_52
                obtain ⟨hb_521, hb_522, hb_523, hb_524, hb_525⟩ := hb_52
                have hh_52 : jSt (dC, dI) B base G0 G0 EX4_numberP s.heap 0 0 [(r0, 6, 11, .int z_41), (r0, 6, 9, .ref rb), (r0, 6, 10, .int pe), (r0, 6, 7, .int pv), (r0, 6, 8, .int pu), (r0, 6, 0, .ref wk), (r0, 6, 1, .ref wi), (r0, 6, 2, .ref wz), (r0, 6, 4, .ref jkf), (r0, 6, 5, .ref jks)] [(wk, 140, 1502, ca 1, fk), (wi, 141, 1502, ca 1, fi), (wz, 142, 1502, ca 1, fz), (jkf, 144, 1502, ca 1, fa), (jks, 145, 1502, ca 1, fs)] [] H_52 locs_52 := ((hh_43.call hb_521 hb_522 hb_523 hb_524 hS_52 rfl (L1 := [(r0, 6, 11, .int z_41), (r0, 6, 9, .ref rb), (r0, 6, 10, .int pe), (r0, 6, 7, .int pv), (r0, 6, 8, .int pu), (r0, 6, 0, .ref wk), (r0, 6, 1, .ref wi), (r0, 6, 2, .ref wz), (r0, 6, 4, .ref jkf), (r0, 6, 5, .ref jks)]) [0, 1, 2, 3, 4, 5, 6, 7, 8, 9] rfl rfl (M1 := [(wk, 140, 1502, ca 1, fk), (wi, 141, 1502, ca 1, fi), (wz, 142, 1502, ca 1, fz), (jkf, 144, 1502, ca 1, fa), (jks, 145, 1502, ca 1, fs)]) [0, 1, 2, 3, 4] rfl rfl (I1 := []) [] rfl rfl).more hb_525)
                clear hh_43 ht_52 hvm_52 hz_52 hk_52 hS_52 hb_521 hb_522 hb_523 hb_524 hb_525
                obtain ⟨hr_53_0, hr_53_1, hr_53_2⟩ := hr_53
                refine lv_bipush (v := 45) hx hb dX4_number_139 (by decide) ?_
                refine lv_icmp_ne (tgt := 154) hx hb dX4_number_141 (by decide) (fun c_54 => ?_) (fun c_54 => ?_)
                · skip
                  have c_54' : r_53.toInt ≠ 45 := jb_ne (rfl) ((by decide)) c_54
                  try clear hr_53_2
                  exact C154 z_41 _ _ hh_52 (by first | omega | (refine ⟨?_, ?_, ?_, ?_⟩ <;> (first | omega | rfl | assumption | decide | exact Or.inl rfl | exact Or.inr rfl | (simp only; omega)))) _ (lv_sub hl [1, 2, 3, 4, 0] rfl)
                · skip
                  have c_54' : r_53.toInt = 45 := jb_ne_n (rfl) ((by decide)) c_54
                  first | (have hr_53_2q := hr_53_2.resolve_left (by omega); clear hr_53_2) | (have hr_53_2q := hr_53_2.resolve_right (by omega); clear hr_53_2) | try clear hr_53_2
                  refine lv_aload_n hx hb dX4_number_144 rfl (lv_at hl 1 rfl) ?_
                  refine lv_dup hx hb dX4_number_145 rfl ?_
                  refine j7_read hx hb hown hK (C := RX4) (T := TX4) (N := 12) rfl hly_6_11 hlk_47 (hh_52.at 0 rfl) dX4_number_146 ?_
                  refine lv_iconst (v := 1) hx hb dX4_number_149 (by decide) ?_
                  refine lv_iadd hx hb dX4_number_150 ?_
                  refine lv_topi (fun z_55 ez_55 => ?_)
                  have hz_55 : z_55.toInt = z_41.toInt + 1 := by rw [ez_55]; exact jb_iadd2 (rfl) ((by decide)) (by omega)
                  refine j7_put hx hb hown hK hh_52 hB hAp hB6 (C := RX4) (T := TX4) (N := 12) rfl (by decide) hg_r0 (i := 11) (by decide) hly_6_11 rfl hlk_47 rfl (ty := .int) (v := .int z_55) (by decide +kernel) rfl rfl (⟨_, rfl, by omega, by omega⟩) rfl (L1 := [(r0, 6, 9, .ref rb), (r0, 6, 10, .int pe), (r0, 6, 7, .int pv), (r0, 6, 8, .int pu), (r0, 6, 0, .ref wk), (r0, 6, 1, .ref wi), (r0, 6, 2, .ref wz), (r0, 6, 4, .ref jkf), (r0, 6, 5, .ref jks)]) [1, 2, 3, 4, 5, 6, 7, 8, 9] rfl rfl rfl dX4_number_151 (fun H_56 locs_56 hh_56 => ?_)
                  clear hh_52
                  exact C154 z_55 _ _ hh_56 (by first | omega | (refine ⟨?_, ?_, ?_, ?_⟩ <;> (first | omega | rfl | assumption | decide | exact Or.inl rfl | exact Or.inr rfl | (simp only; omega)))) _ (lv_sub hl [1, 2, 3, 4, 0] rfl)
            · skip
              have c_40' : r_13.toInt ≠ 101 := jb_eq_n (rfl) ((by decide)) c_40
              try clear hr_13_2
              refine lv_aload_n hx hb dX4_number_104 rfl (lv_at hl 0 rfl) ?_
              refine va_calli (A0 := jA base) (H0 := s.heap) (va_runV (As := []) (rest := []) ⟨hx, hb, hml, hown, hts⟩ (uX4_peek l dC dI ca base B hB hAp hB6 hB100 G0 H_12 r0 rb n_rb pe wt_11) (cwV 0 hts (jgV (jWr_19 _ (List.mem_of_getElem? (i := 19) rfl)) (jWr_19 _ (List.mem_of_getElem? (i := 20) rfl)) (jWr_19 _ (List.mem_of_getElem? (i := 21) rfl)) (jWr_1 _ (List.mem_of_getElem? (i := 22) rfl)) (jWr_19 _ (List.mem_of_getElem? (i := 22) rfl))) rfl rfl rfl (by decide +kernel) ⟨by rw [← hR]; exact Nat.le_of_ble_eq_true rfl, by rw [← hR]; exact Nat.le_of_ble_eq_true rfl⟩) ⟨fun a U g mk q => by obtain ⟨q0, q1, q2, qK, q10, q11, q12, q13⟩ := q; exact ⟨q0, q1, q2, jG.calling g mk a qK, q10, q11, q12, q13⟩, hh_12.recv (C := RX4) (T := TX4) (N := 12) hB6 rfl (by decide) hg_r0 hK, fun U hU hW => ⟨rfl, hU, hh_12.2.1, hG.step hW hU hh_12.1, hg_r0, hg_rb, (hh_12.2.2.1.sub (L1 := [(r0, 6, 9, .ref rb), (r0, 6, 10, .int pe), (r0, 6, 11, .int wt_11)]) [1, 2, 0] rfl), by first | omega | (refine ⟨?_, ?_, ?_, ?_, ?_⟩ <;> (first | omega | rfl | assumption | decide | exact Or.inl rfl | exact Or.inr rfl | (simp only; omega)))⟩⟩ rfl rfl hl.1 rfl (lv_room (Nat.le_of_ble_eq_true rfl)) dX4_number_105 ⟨Nat.zero_le _, Nat.zero_le _⟩) hh_12.1 (fun q _ h => h) (fun q h => h) (fun r_58 u_57 t_57 H_57 locs_57 ht_57 hvm_57 hr_58 hb_57 hz_57 hk_57 hS_57 => ?_)
              rw [ht_57] at hb_57
              obtain ⟨hb_571, hb_572, hb_573, hb_574, hb_575⟩ := hb_57
              have hh_57 : jSt (dC, dI) B base G0 G0 EX4_numberP s.heap 0 0 [(r0, 6, 11, .int wt_11), (r0, 6, 9, .ref rb), (r0, 6, 10, .int pe), (r0, 6, 7, .int pv), (r0, 6, 8, .int pu), (r0, 6, 0, .ref wk), (r0, 6, 1, .ref wi), (r0, 6, 2, .ref wz), (r0, 6, 4, .ref jkf), (r0, 6, 5, .ref jks)] [(wk, 140, 1502, ca 1, fk), (wi, 141, 1502, ca 1, fi), (wz, 142, 1502, ca 1, fz), (jkf, 144, 1502, ca 1, fa), (jks, 145, 1502, ca 1, fs)] [] H_57 locs_57 := ((hh_12.call hb_571 hb_572 hb_573 hb_574 hS_57 rfl (L1 := [(r0, 6, 11, .int wt_11), (r0, 6, 9, .ref rb), (r0, 6, 10, .int pe), (r0, 6, 7, .int pv), (r0, 6, 8, .int pu), (r0, 6, 0, .ref wk), (r0, 6, 1, .ref wi), (r0, 6, 2, .ref wz), (r0, 6, 4, .ref jkf), (r0, 6, 5, .ref jks)]) [0, 1, 2, 3, 4, 5, 6, 7, 8, 9] rfl rfl (M1 := [(wk, 140, 1502, ca 1, fk), (wi, 141, 1502, ca 1, fi), (wz, 142, 1502, ca 1, fz), (jkf, 144, 1502, ca 1, fa), (jks, 145, 1502, ca 1, fs)]) [0, 1, 2, 3, 4] rfl rfl (I1 := []) [] rfl rfl).more hb_575)
              clear hh_12 ht_57 hvm_57 hz_57 hk_57 hS_57 hb_571 hb_572 hb_573 hb_574 hb_575
              obtain ⟨hr_58_0, hr_58_1, hr_58_2⟩ := hr_58
              refine lv_bipush (v := 69) hx hb dX4_number_108 (by decide) ?_
              refine lv_icmp_ne (tgt := 163) hx hb dX4_number_110 (by decide) (fun c_59 => ?_) (fun c_59 => ?_)
              · skip
                have c_59' : r_58.toInt ≠ 69 := jb_ne (rfl) ((by decide)) c_59
                try clear hr_58_2
                exact C163 v4_11 wt_11 _ _ hh_57 (hb_v4_11) (by first | omega | (refine ⟨?_, ?_, ?_, ?_⟩ <;> (first | omega | rfl | assumption | decide | exact Or.inl rfl | exact Or.inr rfl | (simp only; omega)))) _ (lv_sub hl [0, 1, 2, 3, 4] rfl)
              · skip
                have c_59' : r_58.toInt = 69 := jb_ne_n (rfl) ((by decide)) c_59
                first | (have hr_58_2q := hr_58_2.resolve_left (by omega); clear hr_58_2) | (have hr_58_2q := hr_58_2.resolve_right (by omega); clear hr_58_2) | try clear hr_58_2
                refine lv_iconst (v := 0) hx hb dX4_number_113 (by decide) ?_
                refine lv_istore (lv' := [(4, .int 0), (0, .ref r0), (1, .int 0), (2, .int wt_4), (3, .int r_6)]) hx hb dX4_number_114 hl (by decide) rfl (fun ls hl => ?_)
                refine lv_aload_n hx hb dX4_number_116 rfl (lv_at hl 1 rfl) ?_
                refine lv_dup hx hb dX4_number_117 rfl ?_
                refine j7_read hx hb hown hK (C := RX4) (T := TX4) (N := 12) rfl hly_6_11 hlk_47 (hh_57.at 0 rfl) dX4_number_118 ?_
                refine lv_iconst (v := 1) hx hb dX4_number_121 (by decide) ?_
                refine lv_iadd hx hb dX4_number_122 ?_
                refine lv_topi (fun z_60 ez_60 => ?_)
                have hz_60 : z_60.toInt = wt_11.toInt + 1 := by rw [ez_60]; exact jb_iadd2 (rfl) ((by decide)) (by omega)
                refine j7_put hx hb hown hK hh_57 hB hAp hB6 (C := RX4) (T := TX4) (N := 12) rfl (by decide) hg_r0 (i := 11) (by decide) hly_6_11 rfl hlk_47 rfl (ty := .int) (v := .int z_60) (by decide +kernel) rfl rfl (⟨_, rfl, by omega, by omega⟩) rfl (L1 := [(r0, 6, 9, .ref rb), (r0, 6, 10, .int pe), (r0, 6, 7, .int pv), (r0, 6, 8, .int pu), (r0, 6, 0, .ref wk), (r0, 6, 1, .ref wi), (r0, 6, 2, .ref wz), (r0, 6, 4, .ref jkf), (r0, 6, 5, .ref jks)]) [1, 2, 3, 4, 5, 6, 7, 8, 9] rfl rfl rfl dX4_number_123 (fun H_61 locs_61 hh_61 => ?_)
                clear hh_57
                refine lv_aload_n hx hb dX4_number_126 rfl (lv_at hl 1 rfl) ?_
                refine va_calli (A0 := jA base) (H0 := s.heap) (va_runV (As := []) (rest := []) ⟨hx, hb, hml, hown, hts⟩ (uX4_peek l dC dI ca base B hB hAp hB6 hB100 G0 H_61 r0 rb n_rb pe z_60) (cwV 0 hts (jgV (jWr_19 _ (List.mem_of_getElem? (i := 19) rfl)) (jWr_19 _ (List.mem_of_getElem? (i := 20) rfl)) (jWr_19 _ (List.mem_of_getElem? (i := 21) rfl)) (jWr_1 _ (List.mem_of_getElem? (i := 22) rfl)) (jWr_19 _ (List.mem_of_getElem? (i := 22) rfl))) rfl rfl rfl (by decide +kernel) ⟨by rw [← hR]; exact Nat.le_of_ble_eq_true rfl, by rw [← hR]; exact Nat.le_of_ble_eq_true rfl⟩) ⟨fun a U g mk q => by obtain ⟨q0, q1, q2, qK, q10, q11, q12, q13⟩ := q; exact ⟨q0, q1, q2, jG.calling g mk a qK, q10, q11, q12, q13⟩, hh_61.recv (C := RX4) (T := TX4) (N := 12) hB6 rfl (by decide) hg_r0 hK, fun U hU hW => ⟨rfl, hU, hh_61.2.1, hG.step hW hU hh_61.1, hg_r0, hg_rb, (hh_61.2.2.1.sub (L1 := [(r0, 6, 9, .ref rb), (r0, 6, 10, .int pe), (r0, 6, 11, .int z_60)]) [1, 2, 0] rfl), by first | omega | (refine ⟨?_, ?_, ?_, ?_, ?_⟩ <;> (first | omega | rfl | assumption | decide | exact Or.inl rfl | exact Or.inr rfl | (simp only; omega)))⟩⟩ rfl rfl hl.1 rfl (lv_room (Nat.le_of_ble_eq_true rfl)) dX4_number_127 ⟨Nat.zero_le _, Nat.zero_le _⟩) hh_61.1 (fun q _ h => h) (fun q h => h) (fun r_63 u_62 t_62 H_62 locs_62 ht_62 hvm_62 hr_63 hb_62 hz_62 hk_62 hS_62 => ?_)
                rw [ht_62] at hb_62
                obtain ⟨hb_621, hb_622, hb_623, hb_624, hb_625⟩ := hb_62
                have hh_62 : jSt (dC, dI) B base G0 G0 EX4_numberP s.heap 0 0 [(r0, 6, 11, .int z_60), (r0, 6, 9, .ref rb), (r0, 6, 10, .int pe), (r0, 6, 7, .int pv), (r0, 6, 8, .int pu), (r0, 6, 0, .ref wk), (r0, 6, 1, .ref wi), (r0, 6, 2, .ref wz), (r0, 6, 4, .ref jkf), (r0, 6, 5, .ref jks)] [(wk, 140, 1502, ca 1, fk), (wi, 141, 1502, ca 1, fi), (wz, 142, 1502, ca 1, fz), (jkf, 144, 1502, ca 1, fa), (jks, 145, 1502, ca 1, fs)] [] H_62 locs_62 := ((hh_61.call hb_621 hb_622 hb_623 hb_624 hS_62 rfl (L1 := [(r0, 6, 11, .int z_60), (r0, 6, 9, .ref rb), (r0, 6, 10, .int pe), (r0, 6, 7, .int pv), (r0, 6, 8, .int pu), (r0, 6, 0, .ref wk), (r0, 6, 1, .ref wi), (r0, 6, 2, .ref wz), (r0, 6, 4, .ref jkf), (r0, 6, 5, .ref jks)]) [0, 1, 2, 3, 4, 5, 6, 7, 8, 9] rfl rfl (M1 := [(wk, 140, 1502, ca 1, fk), (wi, 141, 1502, ca 1, fi), (wz, 142, 1502, ca 1, fz), (jkf, 144, 1502, ca 1, fa), (jks, 145, 1502, ca 1, fs)]) [0, 1, 2, 3, 4] rfl rfl (I1 := []) [] rfl rfl).more hb_625)
                clear hh_61 ht_62 hvm_62 hz_62 hk_62 hS_62 hb_621 hb_622 hb_623 hb_624 hb_625
                obtain ⟨hr_63_0, hr_63_1, hr_63_2⟩ := hr_63
                refine lv_bipush (v := 43) hx hb dX4_number_130 (by decide) ?_
                have C154 : ∀ (wt_64 : Int32) (H_64 : Heap) (locs_64 : List Loc), jSt (dC, dI) B base G0 G0 EX4_numberP s.heap 0 0 [(r0, 6, 11, .int wt_64), (r0, 6, 9, .ref rb), (r0, 6, 10, .int pe), (r0, 6, 7, .int pv), (r0, 6, 8, .int pu), (r0, 6, 0, .ref wk), (r0, 6, 1, .ref wi), (r0, 6, 2, .ref wz), (r0, 6, 4, .ref jkf), (r0, 6, 5, .ref jks)] [(wk, 140, 1502, ca 1, fk), (wi, 141, 1502, ca 1, fi), (wz, 142, 1502, ca 1, fz), (jkf, 144, 1502, ca 1, fa), (jks, 145, 1502, ca 1, fs)] [] H_64 locs_64 → (pt.toInt ≤ wt_64.toInt ∧ wt_64.toInt ≤ pe.toInt ∧ z_60.toInt ≤ wt_64.toInt ∧ pt.toInt + 1 ≤ wt_64.toInt) → ∀ ls : Array Slot, lv_has ls 8 [(0, .ref r0), (1, .int 0), (2, .int wt_4), (3, .int r_6), (4, .int 0)] → W p l e R s m ([.ref r0] : List Value).toArray below meth c H_64 locs_64 0 0 Q (F0 m 154 ls []) := by
                  intro wt_64 H_64 locs_64 hh_64  hi_64 ls hl
                  obtain ⟨hi_64_0, hi_64_1, hi_64_2, hi_64_3⟩ := hi_64
                  try clear hr_63_2
                  refine lv_aload_n hx hb dX4_number_154 rfl (lv_at hl 0 rfl) ?_
                  refine va_calli (A0 := jA base) (H0 := s.heap) (va_runV (As := []) (rest := []) ⟨hx, hb, hml, hown, hts⟩ (uX4_digits l dC dI ca base B hB hAp hB6 hB100 G0 H_64 r0 rb n_rb pe wt_64) (cwV 0 hts (jgV (jWr_23 _ (List.mem_of_getElem? (i := 1) rfl)) (jWr_23 _ (List.mem_of_getElem? (i := 2) rfl)) (jWr_23 _ (List.mem_of_getElem? (i := 3) rfl)) (jWr_1 _ (List.mem_of_getElem? (i := 22) rfl)) (jWr_23 _ (List.mem_of_getElem? (i := 4) rfl))) rfl rfl rfl (by decide +kernel) ⟨by rw [← hR]; exact Nat.le_of_ble_eq_true rfl, by rw [← hR]; exact Nat.le_of_ble_eq_true rfl⟩) ⟨fun a U g mk q => by obtain ⟨q0, q1, q2, qK, q10, q11, q12, q13⟩ := q; exact ⟨q0, q1, q2, jG.calling g mk a qK, q10, q11, q12, q13⟩, hh_64.recv (C := RX4) (T := TX4) (N := 12) hB6 rfl (by decide) hg_r0 hK, fun U hU hW => ⟨rfl, hU, hh_64.2.1, hG.step hW hU hh_64.1, hg_r0, hg_rb, (hh_64.2.2.1.sub (L1 := [(r0, 6, 9, .ref rb), (r0, 6, 10, .int pe), (r0, 6, 11, .int wt_64)]) [1, 2, 0] rfl), by first | omega | (refine ⟨?_, ?_, ?_, ?_, ?_, ?_⟩ <;> (first | omega | rfl | assumption | decide | exact Or.inl rfl | exact Or.inr rfl | (simp only; omega)))⟩⟩ rfl rfl hl.1 rfl (lv_room (Nat.le_of_ble_eq_true rfl)) dX4_number_155 ⟨Nat.zero_le _, Nat.zero_le _⟩) hh_64.1 (fun q _ h => h) (fun q h => h) (fun r_66 u_65 t_65 H_65 locs_65 ht_65 hvm_65 hr_66 hb_65 hz_65 hk_65 hS_65 => ?_)
                  obtain ⟨qt_65, rfl⟩ : ∃ z, z = u_65 := ⟨_, rfl⟩
                  rw [ht_65] at hb_65
                  obtain ⟨hb_651, hb_652, hb_653, hb_654, hb_655⟩ := hb_65
                  have hh_65 : jSt (dC, dI) B base G0 G0 EX4_numberP s.heap 0 0 [(r0, 6, 11, .int qt_65), (r0, 6, 9, .ref rb), (r0, 6, 10, .int pe), (r0, 6, 7, .int pv), (r0, 6, 8, .int pu), (r0, 6, 0, .ref wk), (r0, 6, 1, .ref wi), (r0, 6, 2, .ref wz), (r0, 6, 4, .ref jkf), (r0, 6, 5, .ref jks)] [(wk, 140, 1502, ca 1, fk), (wi, 141, 1502, ca 1, fi), (wz, 142, 1502, ca 1, fz), (jkf, 144, 1502, ca 1, fa), (jks, 145, 1502, ca 1, fs)] [] H_65 locs_65 := ((hh_64.call hb_651 hb_652 hb_653 hb_654 hS_65 rfl (L1 := [(r0, 6, 9, .ref rb), (r0, 6, 10, .int pe), (r0, 6, 7, .int pv), (r0, 6, 8, .int pu), (r0, 6, 0, .ref wk), (r0, 6, 1, .ref wi), (r0, 6, 2, .ref wz), (r0, 6, 4, .ref jkf), (r0, 6, 5, .ref jks)]) [1, 2, 3, 4, 5, 6, 7, 8, 9] rfl rfl (M1 := [(wk, 140, 1502, ca 1, fk), (wi, 141, 1502, ca 1, fi), (wz, 142, 1502, ca 1, fz), (jkf, 144, 1502, ca 1, fa), (jks, 145, 1502, ca 1, fs)]) [0, 1, 2, 3, 4] rfl rfl (I1 := []) [] rfl rfl).more hb_655)
                  clear hh_64 ht_65 hvm_65 hz_65 hk_65 hS_65 hb_651 hb_652 hb_653 hb_654 hb_655
                  obtain ⟨hr_66_0, hr_66_1, hr_66_2⟩ := hr_66
                  refine lv_if_ne (tgt := 163) hx hb dX4_number_158 (by decide) (fun c_67 => ?_) (fun c_67 => ?_)
                  · skip
                    have c_67' : r_66.toInt ≠ 0 := jb_ne (rfl) ((by decide)) c_67
                    exact C163 0 qt_65 _ _ hh_65 (Or.inl rfl) (by first | omega | (refine ⟨?_, ?_, ?_, ?_⟩ <;> (first | omega | rfl | assumption | decide | exact Or.inl rfl | exact Or.inr rfl | (simp only; omega)))) _ (lv_sub hl [0, 1, 2, 3, 4] rfl)
                  · skip
                    have c_67' : r_66.toInt = 0 := jb_ne_n (rfl) ((by decide)) c_67
                    refine lv_iconst (v := (-1)) hx hb dX4_number_161 (by decide) ?_
                    rw [hQ]
                    exact W.iret (v := (-1)) hx hb hr (fun t ht hW => ⟨⟨(-1), (qt_65, pv, pu, fk, fi, fz, fa, fs), rfl, by (try dsimp only); refine ⟨by omega, by omega, by omega, by omega, by omega, by omega, ?_⟩; exact jVr.no (by omega) (by omega) (by omega) (by omega), ⟨hh_65.rt (M1 := [(r0, 6, 11, .int qt_65), (r0, 6, 7, .int pv), (r0, 6, 8, .int pu)]) [0, 3, 4] rfl ht, by rw [ht]; exact hh_65.2.2.2.2.2.2.2.1.sub [0, 1, 2, 3, 4] rfl⟩⟩, by rw [ht]; try exact hh_65.1.1, fun q h9 hq => by rw [ht]; try exact hh_65.1.2.1 q h9 hq⟩) hh_65.1.2.2 dX4_number_162
                refine lv_icmp_eq (tgt := 144) hx hb dX4_number_132 (by decide) (fun c_68 => ?_) (fun c_68 => ?_)
                · skip
                  have c_68' : r_63.toInt = 43 := jb_eq (rfl) ((by decide)) c_68
                  first | (have hr_63_2q := hr_63_2.resolve_left (by omega); clear hr_63_2) | (have hr_63_2q := hr_63_2.resolve_right (by omega); clear hr_63_2) | try clear hr_63_2
                  refine lv_aload_n hx hb dX4_number_144 rfl (lv_at hl 1 rfl) ?_
                  refine lv_dup hx hb dX4_number_145 rfl ?_
                  refine j7_read hx hb hown hK (C := RX4) (T := TX4) (N := 12) rfl hly_6_11 hlk_47 (hh_62.at 0 rfl) dX4_number_146 ?_
                  refine lv_iconst (v := 1) hx hb dX4_number_149 (by decide) ?_
                  refine lv_iadd hx hb dX4_number_150 ?_
                  refine lv_topi (fun z_69 ez_69 => ?_)
                  have hz_69 : z_69.toInt = z_60.toInt + 1 := by rw [ez_69]; exact jb_iadd2 (rfl) ((by decide)) (by omega)
                  refine j7_put hx hb hown hK hh_62 hB hAp hB6 (C := RX4) (T := TX4) (N := 12) rfl (by decide) hg_r0 (i := 11) (by decide) hly_6_11 rfl hlk_47 rfl (ty := .int) (v := .int z_69) (by decide +kernel) rfl rfl (⟨_, rfl, by omega, by omega⟩) rfl (L1 := [(r0, 6, 9, .ref rb), (r0, 6, 10, .int pe), (r0, 6, 7, .int pv), (r0, 6, 8, .int pu), (r0, 6, 0, .ref wk), (r0, 6, 1, .ref wi), (r0, 6, 2, .ref wz), (r0, 6, 4, .ref jkf), (r0, 6, 5, .ref jks)]) [1, 2, 3, 4, 5, 6, 7, 8, 9] rfl rfl rfl dX4_number_151 (fun H_70 locs_70 hh_70 => ?_)
                  clear hh_62
                  exact C154 z_69 _ _ hh_70 (by first | omega | (refine ⟨?_, ?_, ?_, ?_⟩ <;> (first | omega | rfl | assumption | decide | exact Or.inl rfl | exact Or.inr rfl | (simp only; omega)))) _ (lv_sub hl [1, 2, 3, 4, 0] rfl)
                · skip
                  have c_68' : r_63.toInt ≠ 43 := jb_eq_n (rfl) ((by decide)) c_68
                  try clear hr_63_2
                  refine lv_aload_n hx hb dX4_number_135 rfl (lv_at hl 1 rfl) ?_
                  refine va_calli (A0 := jA base) (H0 := s.heap) (va_runV (As := []) (rest := []) ⟨hx, hb, hml, hown, hts⟩ (uX4_peek l dC dI ca base B hB hAp hB6 hB100 G0 H_62 r0 rb n_rb pe z_60) (cwV 0 hts (jgV (jWr_19 _ (List.mem_of_getElem? (i := 19) rfl)) (jWr_19 _ (List.mem_of_getElem? (i := 20) rfl)) (jWr_19 _ (List.mem_of_getElem? (i := 21) rfl)) (jWr_1 _ (List.mem_of_getElem? (i := 22) rfl)) (jWr_19 _ (List.mem_of_getElem? (i := 22) rfl))) rfl rfl rfl (by decide +kernel) ⟨by rw [← hR]; exact Nat.le_of_ble_eq_true rfl, by rw [← hR]; exact Nat.le_of_ble_eq_true rfl⟩) ⟨fun a U g mk q => by obtain ⟨q0, q1, q2, qK, q10, q11, q12, q13⟩ := q; exact ⟨q0, q1, q2, jG.calling g mk a qK, q10, q11, q12, q13⟩, hh_62.recv (C := RX4) (T := TX4) (N := 12) hB6 rfl (by decide) hg_r0 hK, fun U hU hW => ⟨rfl, hU, hh_62.2.1, hG.step hW hU hh_62.1, hg_r0, hg_rb, (hh_62.2.2.1.sub (L1 := [(r0, 6, 9, .ref rb), (r0, 6, 10, .int pe), (r0, 6, 11, .int z_60)]) [1, 2, 0] rfl), by first | omega | (refine ⟨?_, ?_, ?_, ?_, ?_⟩ <;> (first | omega | rfl | assumption | decide | exact Or.inl rfl | exact Or.inr rfl | (simp only; omega)))⟩⟩ rfl rfl hl.1 rfl (lv_room (Nat.le_of_ble_eq_true rfl)) dX4_number_136 ⟨Nat.zero_le _, Nat.zero_le _⟩) hh_62.1 (fun q _ h => h) (fun q h => h) (fun r_72 u_71 t_71 H_71 locs_71 ht_71 hvm_71 hr_72 hb_71 hz_71 hk_71 hS_71 => ?_)
                  rw [ht_71] at hb_71
                  obtain ⟨hb_711, hb_712, hb_713, hb_714, hb_715⟩ := hb_71
                  have hh_71 : jSt (dC, dI) B base G0 G0 EX4_numberP s.heap 0 0 [(r0, 6, 11, .int z_60), (r0, 6, 9, .ref rb), (r0, 6, 10, .int pe), (r0, 6, 7, .int pv), (r0, 6, 8, .int pu), (r0, 6, 0, .ref wk), (r0, 6, 1, .ref wi), (r0, 6, 2, .ref wz), (r0, 6, 4, .ref jkf), (r0, 6, 5, .ref jks)] [(wk, 140, 1502, ca 1, fk), (wi, 141, 1502, ca 1, fi), (wz, 142, 1502, ca 1, fz), (jkf, 144, 1502, ca 1, fa), (jks, 145, 1502, ca 1, fs)] [] H_71 locs_71 := ((hh_62.call hb_711 hb_712 hb_713 hb_714 hS_71 rfl (L1 := [(r0, 6, 11, .int z_60), (r0, 6, 9, .ref rb), (r0, 6, 10, .int pe), (r0, 6, 7, .int pv), (r0, 6, 8, .int pu), (r0, 6, 0, .ref wk), (r0, 6, 1, .ref wi), (r0, 6, 2, .ref wz), (r0, 6, 4, .ref jkf), (r0, 6, 5, .ref jks)]) [0, 1, 2, 3, 4, 5, 6, 7, 8, 9] rfl rfl (M1 := [(wk, 140, 1502, ca 1, fk), (wi, 141, 1502, ca 1, fi), (wz, 142, 1502, ca 1, fz), (jkf, 144, 1502, ca 1, fa), (jks, 145, 1502, ca 1, fs)]) [0, 1, 2, 3, 4] rfl rfl (I1 := []) [] rfl rfl).more hb_715)
                  clear hh_62 ht_71 hvm_71 hz_71 hk_71 hS_71 hb_711 hb_712 hb_713 hb_714 hb_715
                  obtain ⟨hr_72_0, hr_72_1, hr_72_2⟩ := hr_72
                  refine lv_bipush (v := 45) hx hb dX4_number_139 (by decide) ?_
                  refine lv_icmp_ne (tgt := 154) hx hb dX4_number_141 (by decide) (fun c_73 => ?_) (fun c_73 => ?_)
                  · skip
                    have c_73' : r_72.toInt ≠ 45 := jb_ne (rfl) ((by decide)) c_73
                    try clear hr_72_2
                    exact C154 z_60 _ _ hh_71 (by first | omega | (refine ⟨?_, ?_, ?_, ?_⟩ <;> (first | omega | rfl | assumption | decide | exact Or.inl rfl | exact Or.inr rfl | (simp only; omega)))) _ (lv_sub hl [1, 2, 3, 4, 0] rfl)
                  · skip
                    have c_73' : r_72.toInt = 45 := jb_ne_n (rfl) ((by decide)) c_73
                    first | (have hr_72_2q := hr_72_2.resolve_left (by omega); clear hr_72_2) | (have hr_72_2q := hr_72_2.resolve_right (by omega); clear hr_72_2) | try clear hr_72_2
                    refine lv_aload_n hx hb dX4_number_144 rfl (lv_at hl 1 rfl) ?_
                    refine lv_dup hx hb dX4_number_145 rfl ?_
                    refine j7_read hx hb hown hK (C := RX4) (T := TX4) (N := 12) rfl hly_6_11 hlk_47 (hh_71.at 0 rfl) dX4_number_146 ?_
                    refine lv_iconst (v := 1) hx hb dX4_number_149 (by decide) ?_
                    refine lv_iadd hx hb dX4_number_150 ?_
                    refine lv_topi (fun z_74 ez_74 => ?_)
                    have hz_74 : z_74.toInt = z_60.toInt + 1 := by rw [ez_74]; exact jb_iadd2 (rfl) ((by decide)) (by omega)
                    refine j7_put hx hb hown hK hh_71 hB hAp hB6 (C := RX4) (T := TX4) (N := 12) rfl (by decide) hg_r0 (i := 11) (by decide) hly_6_11 rfl hlk_47 rfl (ty := .int) (v := .int z_74) (by decide +kernel) rfl rfl (⟨_, rfl, by omega, by omega⟩) rfl (L1 := [(r0, 6, 9, .ref rb), (r0, 6, 10, .int pe), (r0, 6, 7, .int pv), (r0, 6, 8, .int pu), (r0, 6, 0, .ref wk), (r0, 6, 1, .ref wi), (r0, 6, 2, .ref wz), (r0, 6, 4, .ref jkf), (r0, 6, 5, .ref jks)]) [1, 2, 3, 4, 5, 6, 7, 8, 9] rfl rfl rfl dX4_number_151 (fun H_75 locs_75 hh_75 => ?_)
                    clear hh_71
                    exact C154 z_74 _ _ hh_75 (by first | omega | (refine ⟨?_, ?_, ?_, ?_⟩ <;> (first | omega | rfl | assumption | decide | exact Or.inl rfl | exact Or.inr rfl | (simp only; omega)))) _ (lv_sub hl [1, 2, 3, 4, 0] rfl)
          refine lv_icmp_ne (tgt := 95) hx hb dX4_number_70 (by decide) (fun c_76 => ?_) (fun c_76 => ?_)
          · skip
            have c_76' : r_10.toInt ≠ 46 := jb_ne (rfl) ((by decide)) c_76
            try clear hr_10_2
            exact C95 1 qt_5 _ _ hh_9 (Or.inr rfl) (by first | omega | (refine ⟨?_, ?_, ?_, ?_⟩ <;> (first | omega | rfl | assumption | decide | exact Or.inl rfl | exact Or.inr rfl | (simp only; omega)))) _ (lv_sub hl [1, 2, 3, 4, 0] rfl)
          · skip
            have c_76' : r_10.toInt = 46 := jb_ne_n (rfl) ((by decide)) c_76
            first | (have hr_10_2q := hr_10_2.resolve_left (by omega); clear hr_10_2) | (have hr_10_2q := hr_10_2.resolve_right (by omega); clear hr_10_2) | try clear hr_10_2
            refine lv_iconst (v := 0) hx hb dX4_number_73 (by decide) ?_
            refine lv_istore (lv' := [(4, .int 0), (0, .ref r0), (1, .int 0), (2, .int wt_4), (3, .int r_6)]) hx hb dX4_number_74 hl (by decide) rfl (fun ls hl => ?_)
            refine lv_aload_n hx hb dX4_number_76 rfl (lv_at hl 1 rfl) ?_
            refine lv_dup hx hb dX4_number_77 rfl ?_
            refine j7_read hx hb hown hK (C := RX4) (T := TX4) (N := 12) rfl hly_6_11 hlk_47 (hh_9.at 0 rfl) dX4_number_78 ?_
            refine lv_iconst (v := 1) hx hb dX4_number_81 (by decide) ?_
            refine lv_iadd hx hb dX4_number_82 ?_
            refine lv_topi (fun z_77 ez_77 => ?_)
            have hz_77 : z_77.toInt = qt_5.toInt + 1 := by rw [ez_77]; exact jb_iadd2 (rfl) ((by decide)) (by omega)
            refine j7_put hx hb hown hK hh_9 hB hAp hB6 (C := RX4) (T := TX4) (N := 12) rfl (by decide) hg_r0 (i := 11) (by decide) hly_6_11 rfl hlk_47 rfl (ty := .int) (v := .int z_77) (by decide +kernel) rfl rfl (⟨_, rfl, by omega, by omega⟩) rfl (L1 := [(r0, 6, 9, .ref rb), (r0, 6, 10, .int pe), (r0, 6, 7, .int pv), (r0, 6, 8, .int pu), (r0, 6, 0, .ref wk), (r0, 6, 1, .ref wi), (r0, 6, 2, .ref wz), (r0, 6, 4, .ref jkf), (r0, 6, 5, .ref jks)]) [1, 2, 3, 4, 5, 6, 7, 8, 9] rfl rfl rfl dX4_number_83 (fun H_78 locs_78 hh_78 => ?_)
            clear hh_9
            refine lv_aload_n hx hb dX4_number_86 rfl (lv_at hl 1 rfl) ?_
            refine va_calli (A0 := jA base) (H0 := s.heap) (va_runV (As := []) (rest := []) ⟨hx, hb, hml, hown, hts⟩ (uX4_digits l dC dI ca base B hB hAp hB6 hB100 G0 H_78 r0 rb n_rb pe z_77) (cwV 0 hts (jgV (jWr_23 _ (List.mem_of_getElem? (i := 1) rfl)) (jWr_23 _ (List.mem_of_getElem? (i := 2) rfl)) (jWr_23 _ (List.mem_of_getElem? (i := 3) rfl)) (jWr_1 _ (List.mem_of_getElem? (i := 22) rfl)) (jWr_23 _ (List.mem_of_getElem? (i := 4) rfl))) rfl rfl rfl (by decide +kernel) ⟨by rw [← hR]; exact Nat.le_of_ble_eq_true rfl, by rw [← hR]; exact Nat.le_of_ble_eq_true rfl⟩) ⟨fun a U g mk q => by obtain ⟨q0, q1, q2, qK, q10, q11, q12, q13⟩ := q; exact ⟨q0, q1, q2, jG.calling g mk a qK, q10, q11, q12, q13⟩, hh_78.recv (C := RX4) (T := TX4) (N := 12) hB6 rfl (by decide) hg_r0 hK, fun U hU hW => ⟨rfl, hU, hh_78.2.1, hG.step hW hU hh_78.1, hg_r0, hg_rb, (hh_78.2.2.1.sub (L1 := [(r0, 6, 9, .ref rb), (r0, 6, 10, .int pe), (r0, 6, 11, .int z_77)]) [1, 2, 0] rfl), by first | omega | (refine ⟨?_, ?_, ?_, ?_, ?_, ?_⟩ <;> (first | omega | rfl | assumption | decide | exact Or.inl rfl | exact Or.inr rfl | (simp only; omega)))⟩⟩ rfl rfl hl.1 rfl (lv_room (Nat.le_of_ble_eq_true rfl)) dX4_number_87 ⟨Nat.zero_le _, Nat.zero_le _⟩) hh_78.1 (fun q _ h => h) (fun q h => h) (fun r_80 u_79 t_79 H_79 locs_79 ht_79 hvm_79 hr_80 hb_79 hz_79 hk_79 hS_79 => ?_)
            obtain ⟨qt_79, rfl⟩ : ∃ z, z = u_79 := ⟨_, rfl⟩
            rw [ht_79] at hb_79
            obtain ⟨hb_791, hb_792, hb_793, hb_794, hb_795⟩ := hb_79
            have hh_79 : jSt (dC, dI) B base G0 G0 EX4_numberP s.heap 0 0 [(r0, 6, 11, .int qt_79), (r0, 6, 9, .ref rb), (r0, 6, 10, .int pe), (r0, 6, 7, .int pv), (r0, 6, 8, .int pu), (r0, 6, 0, .ref wk), (r0, 6, 1, .ref wi), (r0, 6, 2, .ref wz), (r0, 6, 4, .ref jkf), (r0, 6, 5, .ref jks)] [(wk, 140, 1502, ca 1, fk), (wi, 141, 1502, ca 1, fi), (wz, 142, 1502, ca 1, fz), (jkf, 144, 1502, ca 1, fa), (jks, 145, 1502, ca 1, fs)] [] H_79 locs_79 := ((hh_78.call hb_791 hb_792 hb_793 hb_794 hS_79 rfl (L1 := [(r0, 6, 9, .ref rb), (r0, 6, 10, .int pe), (r0, 6, 7, .int pv), (r0, 6, 8, .int pu), (r0, 6, 0, .ref wk), (r0, 6, 1, .ref wi), (r0, 6, 2, .ref wz), (r0, 6, 4, .ref jkf), (r0, 6, 5, .ref jks)]) [1, 2, 3, 4, 5, 6, 7, 8, 9] rfl rfl (M1 := [(wk, 140, 1502, ca 1, fk), (wi, 141, 1502, ca 1, fi), (wz, 142, 1502, ca 1, fz), (jkf, 144, 1502, ca 1, fa), (jks, 145, 1502, ca 1, fs)]) [0, 1, 2, 3, 4] rfl rfl (I1 := []) [] rfl rfl).more hb_795)
            clear hh_78 ht_79 hvm_79 hz_79 hk_79 hS_79 hb_791 hb_792 hb_793 hb_794 hb_795
            obtain ⟨hr_80_0, hr_80_1, hr_80_2⟩ := hr_80
            refine lv_if_ne (tgt := 95) hx hb dX4_number_90 (by decide) (fun c_81 => ?_) (fun c_81 => ?_)
            · skip
              have c_81' : r_80.toInt ≠ 0 := jb_ne (rfl) ((by decide)) c_81
              exact C95 0 qt_79 _ _ hh_79 (Or.inl rfl) (by first | omega | (refine ⟨?_, ?_, ?_, ?_⟩ <;> (first | omega | rfl | assumption | decide | exact Or.inl rfl | exact Or.inr rfl | (simp only; omega)))) _ (lv_sub hl [1, 2, 3, 4, 0] rfl)
            · skip
              have c_81' : r_80.toInt = 0 := jb_ne_n (rfl) ((by decide)) c_81
              refine lv_iconst (v := (-1)) hx hb dX4_number_93 (by decide) ?_
              rw [hQ]
              exact W.iret (v := (-1)) hx hb hr (fun t ht hW => ⟨⟨(-1), (qt_79, pv, pu, fk, fi, fz, fa, fs), rfl, by (try dsimp only); refine ⟨by omega, by omega, by omega, by omega, by omega, by omega, ?_⟩; exact jVr.no (by omega) (by omega) (by omega) (by omega), ⟨hh_79.rt (M1 := [(r0, 6, 11, .int qt_79), (r0, 6, 7, .int pv), (r0, 6, 8, .int pu)]) [0, 3, 4] rfl ht, by rw [ht]; exact hh_79.2.2.2.2.2.2.2.1.sub [0, 1, 2, 3, 4] rfl⟩⟩, by rw [ht]; try exact hh_79.1.1, fun q h9 hq => by rw [ht]; try exact hh_79.1.2.1 q h9 hq⟩) hh_79.1.2.2 dX4_number_94
        refine lv_icmp_le (tgt := 61) hx hb dX4_number_45 (by decide) (fun c_82 => ?_) (fun c_82 => ?_)
        · skip
          have c_82' : r_6.toInt ≤ 1 := jb_le (rfl) ((by decide)) c_82
          exact C61  _ _ hh_5 (trivial) _ (lv_sub hl [2, 3, 1, 0] rfl)
        · skip
          have c_82' : r_6.toInt > 1 := jb_le_n (rfl) ((by decide)) c_82
          refine lv_aload_n hx hb dX4_number_48 rfl (lv_at hl 2 rfl) ?_
          refine j7_read hx hb hown hK (C := RX4) (T := TX4) (N := 12) rfl hly_6_9 hlk_33 (hh_5.at 1 rfl) dX4_number_49 ?_
          refine lv_iload_n hx hb dX4_number_52 rfl (lv_at hl 1 rfl) ?_
          refine j7_bald hx hb hK hh_5 hB100 0 rfl (by decide) hg_rb (x := wt_4.toInt) (rfl) (by omega) dX4_number_53 (fun z_83 (hz_83 : True) => ?_)
          refine lv_bipush (v := 48) hx hb dX4_number_54 (by decide) ?_
          refine lv_icmp_ne (tgt := 61) hx hb dX4_number_56 (by decide) (fun c_84 => ?_) (fun c_84 => ?_)
          · skip
            have c_84' : z_83.toInt ≠ 48 := jb_ne (rfl) ((by decide)) c_84
            exact C61  _ _ hh_5 (trivial) _ (lv_sub hl [2, 3, 1, 0] rfl)
          · skip
            have c_84' : z_83.toInt = 48 := jb_ne_n (rfl) ((by decide)) c_84
            refine lv_iconst (v := (-1)) hx hb dX4_number_59 (by decide) ?_
            rw [hQ]
            exact W.iret (v := (-1)) hx hb hr (fun t ht hW => ⟨⟨(-1), (qt_5, pv, pu, fk, fi, fz, fa, fs), rfl, by (try dsimp only); refine ⟨by omega, by omega, by omega, by omega, by omega, by omega, ?_⟩; exact jVr.no (by omega) (by omega) (by omega) (by omega), ⟨hh_5.rt (M1 := [(r0, 6, 11, .int qt_5), (r0, 6, 7, .int pv), (r0, 6, 8, .int pu)]) [0, 3, 4] rfl ht, by rw [ht]; exact hh_5.2.2.2.2.2.2.2.1.sub [0, 1, 2, 3, 4] rfl⟩⟩, by rw [ht]; try exact hh_5.1.1, fun q h9 hq => by rw [ht]; try exact hh_5.1.2.1 q h9 hq⟩) hh_5.1.2.2 dX4_number_60
    refine lv_if_eq (tgt := 29) hx hb dX4_number_16 (by decide) (fun c_85 => ?_) (fun c_85 => ?_)
    · skip
      exact C29 pt _ _ (hh_1.sub (L1 := [(r0, 6, 11, .int pt), (r0, 6, 9, .ref rb), (r0, 6, 10, .int pe), (r0, 6, 7, .int pv), (r0, 6, 8, .int pu), (r0, 6, 0, .ref wk), (r0, 6, 1, .ref wi), (r0, 6, 2, .ref wz), (r0, 6, 4, .ref jkf), (r0, 6, 5, .ref jks)]) [2, 0, 1, 3, 4, 5, 6, 7, 8, 9] rfl (M1 := [(wk, 140, 1502, ca 1, fk), (wi, 141, 1502, ca 1, fi), (wz, 142, 1502, ca 1, fz), (jkf, 144, 1502, ca 1, fa), (jks, 145, 1502, ca 1, fs)]) [0, 1, 2, 3, 4] rfl (I1 := []) [] rfl) (by first | omega | (refine ⟨?_, ?_⟩ <;> (first | omega | rfl | assumption | decide | exact Or.inl rfl | exact Or.inr rfl | (simp only; omega)))) _ (lv_sub hl [1, 0] rfl)
    · skip
      exact absurd c_85 (by decide)
  · skip
    have c_3' : r_2.toInt = 45 := jb_ne_n (rfl) ((by decide)) c_3
    first | (have hr_2_2q := hr_2_2.resolve_left (by omega); clear hr_2_2) | (have hr_2_2q := hr_2_2.resolve_right (by omega); clear hr_2_2) | try clear hr_2_2
    refine lv_iconst (v := 1) hx hb dX4_number_9 (by decide) ?_
    refine lv_goto (tgt := 14) hx hb dX4_number_10 (by decide) ?_
    refine lv_istore_n (lv' := [(1, .int 1), (0, .ref r0)]) hx hb dX4_number_14 rfl hl (by decide) rfl (fun ls hl => ?_)
    refine lv_iload_n hx hb dX4_number_15 rfl (lv_at hl 0 rfl) ?_
    have C29 : ∀ (wt_86 : Int32) (H_86 : Heap) (locs_86 : List Loc), jSt (dC, dI) B base G0 G0 EX4_numberP s.heap 0 0 [(r0, 6, 11, .int wt_86), (r0, 6, 9, .ref rb), (r0, 6, 10, .int pe), (r0, 6, 7, .int pv), (r0, 6, 8, .int pu), (r0, 6, 0, .ref wk), (r0, 6, 1, .ref wi), (r0, 6, 2, .ref wz), (r0, 6, 4, .ref jkf), (r0, 6, 5, .ref jks)] [(wk, 140, 1502, ca 1, fk), (wi, 141, 1502, ca 1, fi), (wz, 142, 1502, ca 1, fz), (jkf, 144, 1502, ca 1, fa), (jks, 145, 1502, ca 1, fs)] [] H_86 locs_86 → (pt.toInt ≤ wt_86.toInt ∧ wt_86.toInt ≤ pe.toInt) → ∀ ls : Array Slot, lv_has ls 8 [(0, .ref r0), (1, .int 1)] → W p l e R s m ([.ref r0] : List Value).toArray below meth c H_86 locs_86 0 0 Q (F0 m 29 ls []) := by
      intro wt_86 H_86 locs_86 hh_86  hi_86 ls hl
      obtain ⟨hi_86_0, hi_86_1⟩ := hi_86
      refine lv_aload_n hx hb dX4_number_29 rfl (lv_at hl 0 rfl) ?_
      refine j7_read hx hb hown hK (C := RX4) (T := TX4) (N := 12) rfl hly_6_11 hlk_47 (hh_86.at 0 rfl) dX4_number_30 ?_
      refine lv_istore_n (lv' := [(2, .int wt_86), (0, .ref r0), (1, .int 1)]) hx hb dX4_number_33 rfl hl (by decide) rfl (fun ls hl => ?_)
      refine lv_aload_n hx hb dX4_number_34 rfl (lv_at hl 1 rfl) ?_
      refine va_calli (A0 := jA base) (H0 := s.heap) (va_runV (As := []) (rest := []) ⟨hx, hb, hml, hown, hts⟩ (uX4_digits l dC dI ca base B hB hAp hB6 hB100 G0 H_86 r0 rb n_rb pe wt_86) (cwV 0 hts (jgV (jWr_23 _ (List.mem_of_getElem? (i := 1) rfl)) (jWr_23 _ (List.mem_of_getElem? (i := 2) rfl)) (jWr_23 _ (List.mem_of_getElem? (i := 3) rfl)) (jWr_1 _ (List.mem_of_getElem? (i := 22) rfl)) (jWr_23 _ (List.mem_of_getElem? (i := 4) rfl))) rfl rfl rfl (by decide +kernel) ⟨by rw [← hR]; exact Nat.le_of_ble_eq_true rfl, by rw [← hR]; exact Nat.le_of_ble_eq_true rfl⟩) ⟨fun a U g mk q => by obtain ⟨q0, q1, q2, qK, q10, q11, q12, q13⟩ := q; exact ⟨q0, q1, q2, jG.calling g mk a qK, q10, q11, q12, q13⟩, hh_86.recv (C := RX4) (T := TX4) (N := 12) hB6 rfl (by decide) hg_r0 hK, fun U hU hW => ⟨rfl, hU, hh_86.2.1, hG.step hW hU hh_86.1, hg_r0, hg_rb, (hh_86.2.2.1.sub (L1 := [(r0, 6, 9, .ref rb), (r0, 6, 10, .int pe), (r0, 6, 11, .int wt_86)]) [1, 2, 0] rfl), by first | omega | (refine ⟨?_, ?_, ?_, ?_, ?_, ?_⟩ <;> (first | omega | rfl | assumption | decide | exact Or.inl rfl | exact Or.inr rfl | (simp only; omega)))⟩⟩ rfl rfl hl.1 rfl (lv_room (Nat.le_of_ble_eq_true rfl)) dX4_number_35 ⟨Nat.zero_le _, Nat.zero_le _⟩) hh_86.1 (fun q _ h => h) (fun q h => h) (fun r_88 u_87 t_87 H_87 locs_87 ht_87 hvm_87 hr_88 hb_87 hz_87 hk_87 hS_87 => ?_)
      obtain ⟨qt_87, rfl⟩ : ∃ z, z = u_87 := ⟨_, rfl⟩
      rw [ht_87] at hb_87
      obtain ⟨hb_871, hb_872, hb_873, hb_874, hb_875⟩ := hb_87
      have hh_87 : jSt (dC, dI) B base G0 G0 EX4_numberP s.heap 0 0 [(r0, 6, 11, .int qt_87), (r0, 6, 9, .ref rb), (r0, 6, 10, .int pe), (r0, 6, 7, .int pv), (r0, 6, 8, .int pu), (r0, 6, 0, .ref wk), (r0, 6, 1, .ref wi), (r0, 6, 2, .ref wz), (r0, 6, 4, .ref jkf), (r0, 6, 5, .ref jks)] [(wk, 140, 1502, ca 1, fk), (wi, 141, 1502, ca 1, fi), (wz, 142, 1502, ca 1, fz), (jkf, 144, 1502, ca 1, fa), (jks, 145, 1502, ca 1, fs)] [] H_87 locs_87 := ((hh_86.call hb_871 hb_872 hb_873 hb_874 hS_87 rfl (L1 := [(r0, 6, 9, .ref rb), (r0, 6, 10, .int pe), (r0, 6, 7, .int pv), (r0, 6, 8, .int pu), (r0, 6, 0, .ref wk), (r0, 6, 1, .ref wi), (r0, 6, 2, .ref wz), (r0, 6, 4, .ref jkf), (r0, 6, 5, .ref jks)]) [1, 2, 3, 4, 5, 6, 7, 8, 9] rfl rfl (M1 := [(wk, 140, 1502, ca 1, fk), (wi, 141, 1502, ca 1, fi), (wz, 142, 1502, ca 1, fz), (jkf, 144, 1502, ca 1, fa), (jks, 145, 1502, ca 1, fs)]) [0, 1, 2, 3, 4] rfl rfl (I1 := []) [] rfl rfl).more hb_875)
      clear hh_86 ht_87 hvm_87 hz_87 hk_87 hS_87 hb_871 hb_872 hb_873 hb_874 hb_875
      obtain ⟨hr_88_0, hr_88_1, hr_88_2⟩ := hr_88
      refine lv_istore_n (lv' := [(3, .int r_88), (2, .int wt_86), (0, .ref r0), (1, .int 1)]) hx hb dX4_number_38 rfl hl (by decide) rfl (fun ls hl => ?_)
      refine lv_iload_n hx hb dX4_number_39 rfl (lv_at hl 0 rfl) ?_
      refine lv_if_eq (tgt := 59) hx hb dX4_number_40 (by decide) (fun c_89 => ?_) (fun c_89 => ?_)
      · skip
        have c_89' : r_88.toInt = 0 := jb_eq (rfl) ((by decide)) c_89
        refine lv_iconst (v := (-1)) hx hb dX4_number_59 (by decide) ?_
        rw [hQ]
        exact W.iret (v := (-1)) hx hb hr (fun t ht hW => ⟨⟨(-1), (qt_87, pv, pu, fk, fi, fz, fa, fs), rfl, by (try dsimp only); refine ⟨by omega, by omega, by omega, by omega, by omega, by omega, ?_⟩; exact jVr.no (by omega) (by omega) (by omega) (by omega), ⟨hh_87.rt (M1 := [(r0, 6, 11, .int qt_87), (r0, 6, 7, .int pv), (r0, 6, 8, .int pu)]) [0, 3, 4] rfl ht, by rw [ht]; exact hh_87.2.2.2.2.2.2.2.1.sub [0, 1, 2, 3, 4] rfl⟩⟩, by rw [ht]; try exact hh_87.1.1, fun q h9 hq => by rw [ht]; try exact hh_87.1.2.1 q h9 hq⟩) hh_87.1.2.2 dX4_number_60
      · skip
        have c_89' : r_88.toInt ≠ 0 := jb_eq_n (rfl) ((by decide)) c_89
        refine lv_iload_n hx hb dX4_number_43 rfl (lv_at hl 0 rfl) ?_
        refine lv_iconst (v := 1) hx hb dX4_number_44 (by decide) ?_
        have C61 : ∀ (H_90 : Heap) (locs_90 : List Loc), jSt (dC, dI) B base G0 G0 EX4_numberP s.heap 0 0 [(r0, 6, 11, .int qt_87), (r0, 6, 9, .ref rb), (r0, 6, 10, .int pe), (r0, 6, 7, .int pv), (r0, 6, 8, .int pu), (r0, 6, 0, .ref wk), (r0, 6, 1, .ref wi), (r0, 6, 2, .ref wz), (r0, 6, 4, .ref jkf), (r0, 6, 5, .ref jks)] [(wk, 140, 1502, ca 1, fk), (wi, 141, 1502, ca 1, fi), (wz, 142, 1502, ca 1, fz), (jkf, 144, 1502, ca 1, fa), (jks, 145, 1502, ca 1, fs)] [] H_90 locs_90 → (True) → ∀ ls : Array Slot, lv_has ls 8 [(0, .ref r0), (1, .int 1), (2, .int wt_86), (3, .int r_88)] → W p l e R s m ([.ref r0] : List Value).toArray below meth c H_90 locs_90 0 0 Q (F0 m 61 ls []) := by
          intro  H_90 locs_90 hh_90  hi_90 ls hl
          refine lv_iconst (v := 1) hx hb dX4_number_61 (by decide) ?_
          refine lv_istore (lv' := [(4, .int 1), (0, .ref r0), (1, .int 1), (2, .int wt_86), (3, .int r_88)]) hx hb dX4_number_62 hl (by decide) rfl (fun ls hl => ?_)
          refine lv_aload_n hx hb dX4_number_64 rfl (lv_at hl 1 rfl) ?_
          refine va_calli (A0 := jA base) (H0 := s.heap) (va_runV (As := []) (rest := []) ⟨hx, hb, hml, hown, hts⟩ (uX4_peek l dC dI ca base B hB hAp hB6 hB100 G0 H_90 r0 rb n_rb pe qt_87) (cwV 0 hts (jgV (jWr_19 _ (List.mem_of_getElem? (i := 19) rfl)) (jWr_19 _ (List.mem_of_getElem? (i := 20) rfl)) (jWr_19 _ (List.mem_of_getElem? (i := 21) rfl)) (jWr_1 _ (List.mem_of_getElem? (i := 22) rfl)) (jWr_19 _ (List.mem_of_getElem? (i := 22) rfl))) rfl rfl rfl (by decide +kernel) ⟨by rw [← hR]; exact Nat.le_of_ble_eq_true rfl, by rw [← hR]; exact Nat.le_of_ble_eq_true rfl⟩) ⟨fun a U g mk q => by obtain ⟨q0, q1, q2, qK, q10, q11, q12, q13⟩ := q; exact ⟨q0, q1, q2, jG.calling g mk a qK, q10, q11, q12, q13⟩, hh_90.recv (C := RX4) (T := TX4) (N := 12) hB6 rfl (by decide) hg_r0 hK, fun U hU hW => ⟨rfl, hU, hh_90.2.1, hG.step hW hU hh_90.1, hg_r0, hg_rb, (hh_90.2.2.1.sub (L1 := [(r0, 6, 9, .ref rb), (r0, 6, 10, .int pe), (r0, 6, 11, .int qt_87)]) [1, 2, 0] rfl), by first | omega | (refine ⟨?_, ?_, ?_, ?_, ?_⟩ <;> (first | omega | rfl | assumption | decide | exact Or.inl rfl | exact Or.inr rfl | (simp only; omega)))⟩⟩ rfl rfl hl.1 rfl (lv_room (Nat.le_of_ble_eq_true rfl)) dX4_number_65 ⟨Nat.zero_le _, Nat.zero_le _⟩) hh_90.1 (fun q _ h => h) (fun q h => h) (fun r_92 u_91 t_91 H_91 locs_91 ht_91 hvm_91 hr_92 hb_91 hz_91 hk_91 hS_91 => ?_)
          rw [ht_91] at hb_91
          obtain ⟨hb_911, hb_912, hb_913, hb_914, hb_915⟩ := hb_91
          have hh_91 : jSt (dC, dI) B base G0 G0 EX4_numberP s.heap 0 0 [(r0, 6, 11, .int qt_87), (r0, 6, 9, .ref rb), (r0, 6, 10, .int pe), (r0, 6, 7, .int pv), (r0, 6, 8, .int pu), (r0, 6, 0, .ref wk), (r0, 6, 1, .ref wi), (r0, 6, 2, .ref wz), (r0, 6, 4, .ref jkf), (r0, 6, 5, .ref jks)] [(wk, 140, 1502, ca 1, fk), (wi, 141, 1502, ca 1, fi), (wz, 142, 1502, ca 1, fz), (jkf, 144, 1502, ca 1, fa), (jks, 145, 1502, ca 1, fs)] [] H_91 locs_91 := ((hh_90.call hb_911 hb_912 hb_913 hb_914 hS_91 rfl (L1 := [(r0, 6, 11, .int qt_87), (r0, 6, 9, .ref rb), (r0, 6, 10, .int pe), (r0, 6, 7, .int pv), (r0, 6, 8, .int pu), (r0, 6, 0, .ref wk), (r0, 6, 1, .ref wi), (r0, 6, 2, .ref wz), (r0, 6, 4, .ref jkf), (r0, 6, 5, .ref jks)]) [0, 1, 2, 3, 4, 5, 6, 7, 8, 9] rfl rfl (M1 := [(wk, 140, 1502, ca 1, fk), (wi, 141, 1502, ca 1, fi), (wz, 142, 1502, ca 1, fz), (jkf, 144, 1502, ca 1, fa), (jks, 145, 1502, ca 1, fs)]) [0, 1, 2, 3, 4] rfl rfl (I1 := []) [] rfl rfl).more hb_915)
          clear hh_90 ht_91 hvm_91 hz_91 hk_91 hS_91 hb_911 hb_912 hb_913 hb_914 hb_915
          obtain ⟨hr_92_0, hr_92_1, hr_92_2⟩ := hr_92
          refine lv_bipush (v := 46) hx hb dX4_number_68 (by decide) ?_
          have C95 : ∀ (v4_93 : Int32) (wt_93 : Int32) (H_93 : Heap) (locs_93 : List Loc), jSt (dC, dI) B base G0 G0 EX4_numberP s.heap 0 0 [(r0, 6, 11, .int wt_93), (r0, 6, 9, .ref rb), (r0, 6, 10, .int pe), (r0, 6, 7, .int pv), (r0, 6, 8, .int pu), (r0, 6, 0, .ref wk), (r0, 6, 1, .ref wi), (r0, 6, 2, .ref wz), (r0, 6, 4, .ref jkf), (r0, 6, 5, .ref jks)] [(wk, 140, 1502, ca 1, fk), (wi, 141, 1502, ca 1, fi), (wz, 142, 1502, ca 1, fz), (jkf, 144, 1502, ca 1, fa), (jks, 145, 1502, ca 1, fs)] [] H_93 locs_93 → (v4_93 = 0 ∨ v4_93 = 1) → (pt.toInt ≤ wt_93.toInt ∧ wt_93.toInt ≤ pe.toInt ∧ qt_87.toInt ≤ wt_93.toInt ∧ pt.toInt + 1 ≤ wt_93.toInt) → ∀ ls : Array Slot, lv_has ls 8 [(0, .ref r0), (1, .int 1), (2, .int wt_86), (3, .int r_88), (4, .int v4_93)] → W p l e R s m ([.ref r0] : List Value).toArray below meth c H_93 locs_93 0 0 Q (F0 m 95 ls []) := by
            intro v4_93 wt_93 H_93 locs_93 hh_93 hb_v4_93 hi_93 ls hl
            obtain ⟨hi_93_0, hi_93_1, hi_93_2, hi_93_3⟩ := hi_93
            have hb_v4_93' := jb_01 hb_v4_93
            try clear hr_92_2
            refine lv_aload_n hx hb dX4_number_95 rfl (lv_at hl 0 rfl) ?_
            refine va_calli (A0 := jA base) (H0 := s.heap) (va_runV (As := []) (rest := []) ⟨hx, hb, hml, hown, hts⟩ (uX4_peek l dC dI ca base B hB hAp hB6 hB100 G0 H_93 r0 rb n_rb pe wt_93) (cwV 0 hts (jgV (jWr_19 _ (List.mem_of_getElem? (i := 19) rfl)) (jWr_19 _ (List.mem_of_getElem? (i := 20) rfl)) (jWr_19 _ (List.mem_of_getElem? (i := 21) rfl)) (jWr_1 _ (List.mem_of_getElem? (i := 22) rfl)) (jWr_19 _ (List.mem_of_getElem? (i := 22) rfl))) rfl rfl rfl (by decide +kernel) ⟨by rw [← hR]; exact Nat.le_of_ble_eq_true rfl, by rw [← hR]; exact Nat.le_of_ble_eq_true rfl⟩) ⟨fun a U g mk q => by obtain ⟨q0, q1, q2, qK, q10, q11, q12, q13⟩ := q; exact ⟨q0, q1, q2, jG.calling g mk a qK, q10, q11, q12, q13⟩, hh_93.recv (C := RX4) (T := TX4) (N := 12) hB6 rfl (by decide) hg_r0 hK, fun U hU hW => ⟨rfl, hU, hh_93.2.1, hG.step hW hU hh_93.1, hg_r0, hg_rb, (hh_93.2.2.1.sub (L1 := [(r0, 6, 9, .ref rb), (r0, 6, 10, .int pe), (r0, 6, 11, .int wt_93)]) [1, 2, 0] rfl), by first | omega | (refine ⟨?_, ?_, ?_, ?_, ?_⟩ <;> (first | omega | rfl | assumption | decide | exact Or.inl rfl | exact Or.inr rfl | (simp only; omega)))⟩⟩ rfl rfl hl.1 rfl (lv_room (Nat.le_of_ble_eq_true rfl)) dX4_number_96 ⟨Nat.zero_le _, Nat.zero_le _⟩) hh_93.1 (fun q _ h => h) (fun q h => h) (fun r_95 u_94 t_94 H_94 locs_94 ht_94 hvm_94 hr_95 hb_94 hz_94 hk_94 hS_94 => ?_)
            rw [ht_94] at hb_94
            obtain ⟨hb_941, hb_942, hb_943, hb_944, hb_945⟩ := hb_94
            have hh_94 : jSt (dC, dI) B base G0 G0 EX4_numberP s.heap 0 0 [(r0, 6, 11, .int wt_93), (r0, 6, 9, .ref rb), (r0, 6, 10, .int pe), (r0, 6, 7, .int pv), (r0, 6, 8, .int pu), (r0, 6, 0, .ref wk), (r0, 6, 1, .ref wi), (r0, 6, 2, .ref wz), (r0, 6, 4, .ref jkf), (r0, 6, 5, .ref jks)] [(wk, 140, 1502, ca 1, fk), (wi, 141, 1502, ca 1, fi), (wz, 142, 1502, ca 1, fz), (jkf, 144, 1502, ca 1, fa), (jks, 145, 1502, ca 1, fs)] [] H_94 locs_94 := ((hh_93.call hb_941 hb_942 hb_943 hb_944 hS_94 rfl (L1 := [(r0, 6, 11, .int wt_93), (r0, 6, 9, .ref rb), (r0, 6, 10, .int pe), (r0, 6, 7, .int pv), (r0, 6, 8, .int pu), (r0, 6, 0, .ref wk), (r0, 6, 1, .ref wi), (r0, 6, 2, .ref wz), (r0, 6, 4, .ref jkf), (r0, 6, 5, .ref jks)]) [0, 1, 2, 3, 4, 5, 6, 7, 8, 9] rfl rfl (M1 := [(wk, 140, 1502, ca 1, fk), (wi, 141, 1502, ca 1, fi), (wz, 142, 1502, ca 1, fz), (jkf, 144, 1502, ca 1, fa), (jks, 145, 1502, ca 1, fs)]) [0, 1, 2, 3, 4] rfl rfl (I1 := []) [] rfl rfl).more hb_945)
            clear hh_93 ht_94 hvm_94 hz_94 hk_94 hS_94 hb_941 hb_942 hb_943 hb_944 hb_945
            obtain ⟨hr_95_0, hr_95_1, hr_95_2⟩ := hr_95
            refine lv_bipush (v := 101) hx hb dX4_number_99 (by decide) ?_
            have C163 : ∀ (v4_96 : Int32) (wt_96 : Int32) (H_96 : Heap) (locs_96 : List Loc), jSt (dC, dI) B base G0 G0 EX4_numberP s.heap 0 0 [(r0, 6, 11, .int wt_96), (r0, 6, 9, .ref rb), (r0, 6, 10, .int pe), (r0, 6, 7, .int pv), (r0, 6, 8, .int pu), (r0, 6, 0, .ref wk), (r0, 6, 1, .ref wi), (r0, 6, 2, .ref wz), (r0, 6, 4, .ref jkf), (r0, 6, 5, .ref jks)] [(wk, 140, 1502, ca 1, fk), (wi, 141, 1502, ca 1, fi), (wz, 142, 1502, ca 1, fz), (jkf, 144, 1502, ca 1, fa), (jks, 145, 1502, ca 1, fs)] [] H_96 locs_96 → (v4_96 = 0 ∨ v4_96 = 1) → (pt.toInt ≤ wt_96.toInt ∧ wt_96.toInt ≤ pe.toInt ∧ wt_93.toInt ≤ wt_96.toInt ∧ pt.toInt + 1 ≤ wt_96.toInt) → ∀ ls : Array Slot, lv_has ls 8 [(0, .ref r0), (1, .int 1), (2, .int wt_86), (3, .int r_88), (4, .int v4_96)] → W p l e R s m ([.ref r0] : List Value).toArray below meth c H_96 locs_96 0 0 Q (F0 m 163 ls []) := by
              intro v4_96 wt_96 H_96 locs_96 hh_96 hb_v4_96 hi_96 ls hl
              obtain ⟨hi_96_0, hi_96_1, hi_96_2, hi_96_3⟩ := hi_96
              have hb_v4_96' := jb_01 hb_v4_96
              try clear hr_95_2
              refine lv_lconst (v := 0) hx hb dX4_number_163 (by decide) ?_
              refine lv_lstore (lv' := [(5, .long 0), (0, .ref r0), (1, .int 1), (2, .int wt_86), (3, .int r_88), (4, .int v4_96)]) hx hb dX4_number_164 hl (by decide) rfl (fun ls hl => ?_)
              refine lv_iload_n hx hb dX4_number_166 rfl (lv_at hl 3 rfl) ?_
              refine lv_istore (lv' := [(7, .int wt_86), (5, .long 0), (0, .ref r0), (1, .int 1), (2, .int wt_86), (3, .int r_88), (4, .int v4_96)]) hx hb dX4_number_167 hl (by decide) rfl (fun ls hl => ?_)
              have L169 : ∀ (N : Nat) (v5_97 : Int64) (v7_97 : Int32) (H_97 : Heap) (locs_97 : List Loc), jSt (dC, dI) B base G0 G0 EX4_numberP s.heap 0 0 [(r0, 6, 11, .int wt_96), (r0, 6, 9, .ref rb), (r0, 6, 10, .int pe), (r0, 6, 7, .int pv), (r0, 6, 8, .int pu), (r0, 6, 0, .ref wk), (r0, 6, 1, .ref wi), (r0, 6, 2, .ref wz), (r0, 6, 4, .ref jkf), (r0, 6, 5, .ref jks)] [(wk, 140, 1502, ca 1, fk), (wi, 141, 1502, ca 1, fi), (wz, 142, 1502, ca 1, fz), (jkf, 144, 1502, ca 1, fa), (jks, 145, 1502, ca 1, fs)] [] H_97 locs_97 → (wt_86.toInt ≤ v7_97.toInt ∧ v7_97.toInt ≤ wt_86.toInt + r_88.toInt) → (wt_86.toInt + r_88.toInt - v7_97.toInt : Int) < N → ∀ ls : Array Slot, lv_has ls 8 [(0, .ref r0), (1, .int 1), (2, .int wt_86), (3, .int r_88), (4, .int v4_96), (5, .long v5_97), (7, .int v7_97)] → W p l e R s m ([.ref r0] : List Value).toArray below meth c H_97 locs_97 0 0 Q (F0 m 169 ls []) := by
                intro N
                induction N with
                | zero => intro v5_97 v7_97 H_97 locs_97 hh_97  hi_97 hm; exact absurd hm (by omega)
                | succ N L169 =>
                  intro v5_97 v7_97 H_97 locs_97 hh_97  hi_97 hm_97 ls hl
                  obtain ⟨hi_97_0, hi_97_1⟩ := hi_97
                  refine lv_iload hx hb dX4_number_169 (lv_at hl 6 rfl) ?_
                  refine lv_iload_n hx hb dX4_number_171 rfl (lv_at hl 2 rfl) ?_
                  refine lv_iload_n hx hb dX4_number_172 rfl (lv_at hl 3 rfl) ?_
                  refine lv_iadd hx hb dX4_number_173 ?_
                  refine lv_topi (fun z_98 ez_98 => ?_)
                  have hz_98 : z_98.toInt = wt_86.toInt + r_88.toInt := by rw [ez_98]; exact jb_iadd2 (rfl) (rfl) (by omega)
                  have C213 : ∀ (v5_99 : Int64) (v7_99 : Int32) (H_99 : Heap) (locs_99 : List Loc), jSt (dC, dI) B base G0 G0 EX4_numberP s.heap 0 0 [(r0, 6, 11, .int wt_96), (r0, 6, 9, .ref rb), (r0, 6, 10, .int pe), (r0, 6, 7, .int pv), (r0, 6, 8, .int pu), (r0, 6, 0, .ref wk), (r0, 6, 1, .ref wi), (r0, 6, 2, .ref wz), (r0, 6, 4, .ref jkf), (r0, 6, 5, .ref jks)] [(wk, 140, 1502, ca 1, fk), (wi, 141, 1502, ca 1, fi), (wz, 142, 1502, ca 1, fz), (jkf, 144, 1502, ca 1, fa), (jks, 145, 1502, ca 1, fs)] [] H_99 locs_99 → (True) → ∀ ls : Array Slot, lv_has ls 8 [(0, .ref r0), (1, .int 1), (2, .int wt_86), (3, .int r_88), (4, .int v4_96), (5, .long v5_99), (7, .int v7_99)] → W p l e R s m ([.ref r0] : List Value).toArray below meth c H_99 locs_99 0 0 Q (F0 m 213 ls []) := by
                    intro v5_99 v7_99 H_99 locs_99 hh_99  hi_99 ls hl
                    refine lv_iload_n hx hb dX4_number_213 rfl (lv_at hl 1 rfl) ?_
                    refine lv_if_eq (tgt := 223) hx hb dX4_number_214 (by decide) (fun c_100 => ?_) (fun c_100 => ?_)
                    · skip
                      exact absurd c_100 (by decide)
                    · skip
                      refine lv_lload hx hb dX4_number_217 (lv_at hl 5 rfl) ?_
                      refine lv_lneg hx hb dX4_number_219 ?_
                      refine lv_topl (fun z_101 ez_101 => ?_)
                      refine lv_goto (tgt := 225) hx hb dX4_number_220 (by decide) ?_
                      refine lv_lstore (lv' := [(5, .long z_101), (0, .ref r0), (1, .int 1), (2, .int wt_86), (3, .int r_88), (4, .int v4_96), (7, .int v7_99)]) hx hb dX4_number_225 hl (by decide) rfl (fun ls hl => ?_)
                      refine lv_iload hx hb dX4_number_227 (lv_at hl 5 rfl) ?_
                      have C255 : ∀ (w0_102 : Int32) (H_102 : Heap) (locs_102 : List Loc), jSt (dC, dI) B base G0 G0 EX4_numberP s.heap 0 0 [(r0, 6, 11, .int wt_96), (r0, 6, 9, .ref rb), (r0, 6, 10, .int pe), (r0, 6, 7, .int pv), (r0, 6, 8, .int pu), (r0, 6, 0, .ref wk), (r0, 6, 1, .ref wi), (r0, 6, 2, .ref wz), (r0, 6, 4, .ref jkf), (r0, 6, 5, .ref jks)] [(wk, 140, 1502, ca 1, fk), (wi, 141, 1502, ca 1, fi), (wz, 142, 1502, ca 1, fz), (jkf, 144, 1502, ca 1, fa), (jks, 145, 1502, ca 1, fs)] [] H_102 locs_102 → (w0_102 = 0 ∨ w0_102 = 1) → (True) → ∀ ls : Array Slot, lv_has ls 8 [(0, .ref r0), (1, .int 1), (2, .int wt_86), (3, .int r_88), (4, .int v4_96), (5, .long z_101), (7, .int v7_99)] → W p l e R s m ([.ref r0] : List Value).toArray below meth c H_102 locs_102 0 0 Q (F0 m 255 ls [.int w0_102]) := by
                        intro w0_102 H_102 locs_102 hh_102 hb_w0_102 hi_102 ls hl
                        have hb_w0_102' := jb_01 hb_w0_102
                        refine lv_istore (lv' := [(4, .int w0_102), (0, .ref r0), (1, .int 1), (2, .int wt_86), (3, .int r_88), (5, .long z_101), (7, .int v7_99)]) hx hb dX4_number_255 hl (by decide) rfl (fun ls hl => ?_)
                        refine lv_iload hx hb dX4_number_257 (lv_at hl 0 rfl) ?_
                        refine lv_if_eq (tgt := 274) hx hb dX4_number_259 (by decide) (fun c_103 => ?_) (fun c_103 => ?_)
                        · skip
                          have c_103' : w0_102.toInt = 0 := jb_eq (rfl) ((by decide)) c_103
                          refine lv_aload_n hx hb dX4_number_274 rfl (lv_at hl 1 rfl) ?_
                          refine lv_iconst (v := 5) hx hb dX4_number_275 (by decide) ?_
                          refine lv_iconst (v := 0) hx hb dX4_number_276 (by decide) ?_
                          refine lv_iconst (v := 0) hx hb dX4_number_277 (by decide) ?_
                          refine va_calli (A0 := jA base) (H0 := s.heap) (va_runV (As := [.int 5, .int 0, .int 0]) (rest := []) ⟨hx, hb, hml, hown, hts⟩ (uX4_makeP l dC dI ca base B hB hAp hB6 hB140 hB141 hB142 hB143 hB144 hB145 G0 H_102 r0 5 0 0 pv wk wi wz jkf jks fk fi fz fa fs) (cwV 3 hts (jgV (jWr_22 _ (List.mem_of_getElem? (i := 10) rfl)) (jWr_22 _ (List.mem_of_getElem? (i := 11) rfl)) (jWr_22 _ (List.mem_of_getElem? (i := 12) rfl)) (jWr_1 _ (List.mem_of_getElem? (i := 22) rfl)) (jWr_22 _ (List.mem_of_getElem? (i := 13) rfl))) rfl rfl rfl (by decide +kernel) ⟨by rw [← hR]; exact Nat.le_of_ble_eq_true rfl, by rw [← hR]; exact Nat.le_of_ble_eq_true rfl⟩) ⟨fun a U g mk q => by obtain ⟨q0, q1, q2, qK, q10, q11, q12, q13, q14, q15, q16, q17, q18⟩ := q; exact ⟨q0, q1, q2, jG.calling g mk a qK, q10, q11, q12, q13, q14, q15, q16, q17, q18⟩, hh_102.recv (C := RX4) (T := TX4) (N := 12) hB6 rfl (by decide) hg_r0 hK, fun U hU hW => ⟨rfl, hU, hh_102.2.1, hG.step hW hU hh_102.1, hg_r0, hg_wk, hg_wi, hg_wz, hg_jkf, hg_jks, (hh_102.2.2.1.sub (L1 := [(r0, 6, 7, .int pv), (r0, 6, 0, .ref wk), (r0, 6, 1, .ref wi), (r0, 6, 2, .ref wz), (r0, 6, 4, .ref jkf), (r0, 6, 5, .ref jks)]) [3, 5, 6, 7, 8, 9] rfl), (hh_102.2.2.2.2.2.2.2.1.sub (L1 := [(wk, 140, 1502, ca 1, fk), (wi, 141, 1502, ca 1, fi), (wz, 142, 1502, ca 1, fz), (jkf, 144, 1502, ca 1, fa), (jks, 145, 1502, ca 1, fs)]) [0, 1, 2, 3, 4] rfl), by first | omega | (refine ⟨?_, ?_⟩ <;> (first | omega | rfl | assumption | decide | exact Or.inl rfl | exact Or.inr rfl | (simp only; omega)))⟩⟩ rfl rfl hl.1 rfl (lv_room (Nat.le_of_ble_eq_true rfl)) dX4_number_278 ⟨Nat.zero_le _, Nat.zero_le _⟩) hh_102.1 (fun q _ h => h) (fun q h => h) (fun r_105 u_104 t_104 H_104 locs_104 ht_104 hvm_104 hr_105 hb_104 hz_104 hk_104 hS_104 => ?_)
                          obtain ⟨qv_104, gk_104, gi_104, gz_104, ga_104, gs_104⟩ := u_104
                          rw [ht_104] at hb_104
                          obtain ⟨⟨hb_1041, hb_1042, hb_1043, hb_1044, hb_1045⟩, hb_1046⟩ := hb_104
                          have hh_104 : jSt (dC, dI) B base G0 G0 EX4_numberP s.heap 0 0 [(r0, 6, 7, .int qv_104), (r0, 6, 11, .int wt_96), (r0, 6, 9, .ref rb), (r0, 6, 10, .int pe), (r0, 6, 8, .int pu), (r0, 6, 0, .ref wk), (r0, 6, 1, .ref wi), (r0, 6, 2, .ref wz), (r0, 6, 4, .ref jkf), (r0, 6, 5, .ref jks)] [(wk, 140, 1502, ca 1, gk_104), (wi, 141, 1502, ca 1, gi_104), (wz, 142, 1502, ca 1, gz_104), (jkf, 144, 1502, ca 1, ga_104), (jks, 145, 1502, ca 1, gs_104)] [] H_104 locs_104 := ((hh_102.call hb_1041 hb_1042 hb_1043 hb_1044 hS_104 rfl (L1 := [(r0, 6, 11, .int wt_96), (r0, 6, 9, .ref rb), (r0, 6, 10, .int pe), (r0, 6, 8, .int pu), (r0, 6, 0, .ref wk), (r0, 6, 1, .ref wi), (r0, 6, 2, .ref wz), (r0, 6, 4, .ref jkf), (r0, 6, 5, .ref jks)]) [0, 1, 2, 4, 5, 6, 7, 8, 9] rfl rfl (M1 := []) [] rfl rfl (I1 := []) [] rfl rfl).more hb_1045).moreM hb_1046
                          clear hh_102 ht_104 hvm_104 hz_104 hk_104 hS_104 hb_1041 hb_1042 hb_1043 hb_1044 hb_1045
                          clear hb_1046
                          try simp only at hr_105
                          obtain ⟨hr_105_0, hr_105_1, hr_105_2, hr_105_3⟩ := hr_105
                          rw [hQ]
                          exact W.iret (v := r_105) hx hb hr (fun t ht hW => ⟨⟨r_105, (wt_96, qv_104, pu, gk_104, gi_104, gz_104, ga_104, gs_104), rfl, by (try dsimp only); refine ⟨by omega, by omega, by omega, by omega, by omega, by omega, ?_⟩; exact jVr.mk hr_105_2 hr_105_0 hr_105_3 (by omega) (by omega) (by omega) (fun h9 => by omega) (by omega), ⟨hh_104.rt (M1 := [(r0, 6, 11, .int wt_96), (r0, 6, 7, .int qv_104), (r0, 6, 8, .int pu)]) [1, 0, 4] rfl ht, by rw [ht]; exact hh_104.2.2.2.2.2.2.2.1.sub [0, 1, 2, 3, 4] rfl⟩⟩, by rw [ht]; try exact hh_104.1.1, fun q h9 hq => by rw [ht]; try exact hh_104.1.2.1 q h9 hq⟩) hh_104.1.2.2 dX4_number_281
                        · skip
                          have c_103' : w0_102.toInt ≠ 0 := jb_eq_n (rfl) ((by decide)) c_103
                          refine lv_aload_n hx hb dX4_number_262 rfl (lv_at hl 1 rfl) ?_
                          refine lv_iconst (v := 4) hx hb dX4_number_263 (by decide) ?_
                          refine lv_lload hx hb dX4_number_264 (lv_at hl 5 rfl) ?_
                          refine lv_l2i hx hb dX4_number_266 rfl ?_
                          refine lv_topi (fun z_106 ez_106 => ?_)
                          refine lv_iconst (v := 0) hx hb dX4_number_267 (by decide) ?_
                          refine va_calli (A0 := jA base) (H0 := s.heap) (va_runV (As := [.int 4, .int z_106, .int 0]) (rest := []) ⟨hx, hb, hml, hown, hts⟩ (uX4_makeP l dC dI ca base B hB hAp hB6 hB140 hB141 hB142 hB143 hB144 hB145 G0 H_102 r0 4 z_106 0 pv wk wi wz jkf jks fk fi fz fa fs) (cwV 3 hts (jgV (jWr_22 _ (List.mem_of_getElem? (i := 10) rfl)) (jWr_22 _ (List.mem_of_getElem? (i := 11) rfl)) (jWr_22 _ (List.mem_of_getElem? (i := 12) rfl)) (jWr_1 _ (List.mem_of_getElem? (i := 22) rfl)) (jWr_22 _ (List.mem_of_getElem? (i := 13) rfl))) rfl rfl rfl (by decide +kernel) ⟨by rw [← hR]; exact Nat.le_of_ble_eq_true rfl, by rw [← hR]; exact Nat.le_of_ble_eq_true rfl⟩) ⟨fun a U g mk q => by obtain ⟨q0, q1, q2, qK, q10, q11, q12, q13, q14, q15, q16, q17, q18⟩ := q; exact ⟨q0, q1, q2, jG.calling g mk a qK, q10, q11, q12, q13, q14, q15, q16, q17, q18⟩, hh_102.recv (C := RX4) (T := TX4) (N := 12) hB6 rfl (by decide) hg_r0 hK, fun U hU hW => ⟨rfl, hU, hh_102.2.1, hG.step hW hU hh_102.1, hg_r0, hg_wk, hg_wi, hg_wz, hg_jkf, hg_jks, (hh_102.2.2.1.sub (L1 := [(r0, 6, 7, .int pv), (r0, 6, 0, .ref wk), (r0, 6, 1, .ref wi), (r0, 6, 2, .ref wz), (r0, 6, 4, .ref jkf), (r0, 6, 5, .ref jks)]) [3, 5, 6, 7, 8, 9] rfl), (hh_102.2.2.2.2.2.2.2.1.sub (L1 := [(wk, 140, 1502, ca 1, fk), (wi, 141, 1502, ca 1, fi), (wz, 142, 1502, ca 1, fz), (jkf, 144, 1502, ca 1, fa), (jks, 145, 1502, ca 1, fs)]) [0, 1, 2, 3, 4] rfl), by first | omega | (refine ⟨?_, ?_⟩ <;> (first | omega | rfl | assumption | decide | exact Or.inl rfl | exact Or.inr rfl | (simp only; omega)))⟩⟩ rfl rfl hl.1 rfl (lv_room (Nat.le_of_ble_eq_true rfl)) dX4_number_268 ⟨Nat.zero_le _, Nat.zero_le _⟩) hh_102.1 (fun q _ h => h) (fun q h => h) (fun r_108 u_107 t_107 H_107 locs_107 ht_107 hvm_107 hr_108 hb_107 hz_107 hk_107 hS_107 => ?_)
                          obtain ⟨qv_107, gk_107, gi_107, gz_107, ga_107, gs_107⟩ := u_107
                          rw [ht_107] at hb_107
                          obtain ⟨⟨hb_1071, hb_1072, hb_1073, hb_1074, hb_1075⟩, hb_1076⟩ := hb_107
                          have hh_107 : jSt (dC, dI) B base G0 G0 EX4_numberP s.heap 0 0 [(r0, 6, 7, .int qv_107), (r0, 6, 11, .int wt_96), (r0, 6, 9, .ref rb), (r0, 6, 10, .int pe), (r0, 6, 8, .int pu), (r0, 6, 0, .ref wk), (r0, 6, 1, .ref wi), (r0, 6, 2, .ref wz), (r0, 6, 4, .ref jkf), (r0, 6, 5, .ref jks)] [(wk, 140, 1502, ca 1, gk_107), (wi, 141, 1502, ca 1, gi_107), (wz, 142, 1502, ca 1, gz_107), (jkf, 144, 1502, ca 1, ga_107), (jks, 145, 1502, ca 1, gs_107)] [] H_107 locs_107 := ((hh_102.call hb_1071 hb_1072 hb_1073 hb_1074 hS_107 rfl (L1 := [(r0, 6, 11, .int wt_96), (r0, 6, 9, .ref rb), (r0, 6, 10, .int pe), (r0, 6, 8, .int pu), (r0, 6, 0, .ref wk), (r0, 6, 1, .ref wi), (r0, 6, 2, .ref wz), (r0, 6, 4, .ref jkf), (r0, 6, 5, .ref jks)]) [0, 1, 2, 4, 5, 6, 7, 8, 9] rfl rfl (M1 := []) [] rfl rfl (I1 := []) [] rfl rfl).more hb_1075).moreM hb_1076
                          clear hh_102 ht_107 hvm_107 hz_107 hk_107 hS_107 hb_1071 hb_1072 hb_1073 hb_1074 hb_1075
                          clear hb_1076
                          try simp only at hr_108
                          obtain ⟨hr_108_0, hr_108_1, hr_108_2, hr_108_3⟩ := hr_108
                          refine lv_goto (tgt := 281) hx hb dX4_number_271 (by decide) ?_
                          rw [hQ]
                          exact W.iret (v := r_108) hx hb hr (fun t ht hW => ⟨⟨r_108, (wt_96, qv_107, pu, gk_107, gi_107, gz_107, ga_107, gs_107), rfl, by (try dsimp only); refine ⟨by omega, by omega, by omega, by omega, by omega, by omega, ?_⟩; exact jVr.mk hr_108_2 hr_108_0 hr_108_3 (by omega) (by omega) (by omega) (fun h9 => by omega) (by omega), ⟨hh_107.rt (M1 := [(r0, 6, 11, .int wt_96), (r0, 6, 7, .int qv_107), (r0, 6, 8, .int pu)]) [1, 0, 4] rfl ht, by rw [ht]; exact hh_107.2.2.2.2.2.2.2.1.sub [0, 1, 2, 3, 4] rfl⟩⟩, by rw [ht]; try exact hh_107.1.1, fun q h9 hq => by rw [ht]; try exact hh_107.1.2.1 q h9 hq⟩) hh_107.1.2.2 dX4_number_281
                      refine lv_if_eq (tgt := 254) hx hb dX4_number_229 (by decide) (fun c_109 => ?_) (fun c_109 => ?_)
                      · skip
                        have c_109' : v4_96.toInt = 0 := jb_eq (rfl) ((by decide)) c_109
                        refine lv_iconst (v := 0) hx hb dX4_number_254 (by decide) ?_
                        exact C255 0 _ _ hh_99 (Or.inl rfl) (trivial) _ (lv_sub hl [1, 2, 3, 4, 5, 0, 6] rfl)
                      · skip
                        have c_109' : v4_96.toInt ≠ 0 := jb_eq_n (rfl) ((by decide)) c_109
                        refine lv_lload hx hb dX4_number_232 (lv_at hl 0 rfl) ?_
                        refine lv_ldc2 hx hb hown (htw (.constantLong RX4 136 (-2147483648)) (jWr_22 _ (List.mem_of_getElem? (i := 23) rfl))) dX4_number_234 ?_
                        refine W.lcmp hx hb dX4_number_237 ?_
                        refine lv_topi (fun z_110 ez_110 => ?_)
                        have hz_110 := jb_lcmp ez_110
                        have hqz_110_m2147483648 : ((-2147483648) : Int64).toInt = (-2147483648) := by decide
                        refine lv_if_lt (tgt := 254) hx hb dX4_number_238 (by decide) (fun c_111 => ?_) (fun c_111 => ?_)
                        · skip
                          have c_111' : z_110.toInt < 0 := jb_lt (rfl) ((by decide)) c_111
                          refine lv_iconst (v := 0) hx hb dX4_number_254 (by decide) ?_
                          exact C255 0 _ _ hh_99 (Or.inl rfl) (trivial) _ (lv_sub hl [1, 2, 3, 4, 5, 0, 6] rfl)
                        · skip
                          have c_111' : z_110.toInt ≥ 0 := jb_lt_n (rfl) ((by decide)) c_111
                          refine lv_lload hx hb dX4_number_241 (lv_at hl 0 rfl) ?_
                          refine lv_ldc2 hx hb hown (htw (.constantLong RX4 138 2147483647) (jWr_23 _ (List.mem_of_getElem? (i := 0) rfl))) dX4_number_243 ?_
                          refine W.lcmp hx hb dX4_number_246 ?_
                          refine lv_topi (fun z_112 ez_112 => ?_)
                          have hz_112 := jb_lcmp ez_112
                          have hqz_112_2147483647 : (2147483647 : Int64).toInt = 2147483647 := by decide
                          refine lv_if_gt (tgt := 254) hx hb dX4_number_247 (by decide) (fun c_113 => ?_) (fun c_113 => ?_)
                          · skip
                            have c_113' : z_112.toInt > 0 := jb_gt (rfl) ((by decide)) c_113
                            refine lv_iconst (v := 0) hx hb dX4_number_254 (by decide) ?_
                            exact C255 0 _ _ hh_99 (Or.inl rfl) (trivial) _ (lv_sub hl [1, 2, 3, 4, 5, 0, 6] rfl)
                          · skip
                            have c_113' : z_112.toInt ≤ 0 := jb_gt_n (rfl) ((by decide)) c_113
                            refine lv_iconst (v := 1) hx hb dX4_number_250 (by decide) ?_
                            refine lv_goto (tgt := 255) hx hb dX4_number_251 (by decide) ?_
                            exact C255 1 _ _ hh_99 (Or.inr rfl) (trivial) _ (lv_sub hl [1, 2, 3, 4, 5, 0, 6] rfl)
                  refine lv_icmp_ge (tgt := 213) hx hb dX4_number_174 (by decide) (fun c_114 => ?_) (fun c_114 => ?_)
                  · skip
                    have c_114' : v7_97.toInt ≥ z_98.toInt := jb_ge (rfl) (rfl) c_114
                    exact C213 v5_97 v7_97 _ _ hh_97 (trivial) _ (lv_sub hl [0, 1, 2, 3, 4, 5, 6] rfl)
                  · skip
                    have c_114' : v7_97.toInt < z_98.toInt := jb_ge_n (rfl) (rfl) c_114
                    refine lv_lload hx hb dX4_number_177 (lv_at hl 5 rfl) ?_
                    refine lv_ldc2 hx hb hown (htw (.constantLong RX4 130 2147483648) (jWr_22 _ (List.mem_of_getElem? (i := 20) rfl))) dX4_number_179 ?_
                    refine W.lcmp hx hb dX4_number_182 ?_
                    refine lv_topi (fun z_115 ez_115 => ?_)
                    have hz_115 := jb_lcmp ez_115
                    have hqz_115_2147483648 : (2147483648 : Int64).toInt = 2147483648 := by decide
                    refine lv_if_gt (tgt := 213) hx hb dX4_number_183 (by decide) (fun c_116 => ?_) (fun c_116 => ?_)
                    · skip
                      have c_116' : z_115.toInt > 0 := jb_gt (rfl) ((by decide)) c_116
                      exact C213 v5_97 v7_97 _ _ hh_97 (trivial) _ (lv_sub hl [0, 1, 2, 3, 4, 5, 6] rfl)
                    · skip
                      have c_116' : z_115.toInt ≤ 0 := jb_gt_n (rfl) ((by decide)) c_116
                      refine lv_lload hx hb dX4_number_186 (lv_at hl 5 rfl) ?_
                      refine lv_ldc2 hx hb hown (htw (.constantLong RX4 132 10) (jWr_22 _ (List.mem_of_getElem? (i := 21) rfl))) dX4_number_188 ?_
                      refine lv_lmul hx hb dX4_number_191 ?_
                      refine lv_topl (fun z_117 ez_117 => ?_)
                      refine lv_aload_n hx hb dX4_number_192 rfl (lv_at hl 0 rfl) ?_
                      refine j7_read hx hb hown hK (C := RX4) (T := TX4) (N := 12) rfl hly_6_9 hlk_33 (hh_97.at 1 rfl) dX4_number_193 ?_
                      refine lv_iload hx hb dX4_number_196 (lv_at hl 6 rfl) ?_
                      refine j7_bald hx hb hK hh_97 hB100 0 rfl (by decide) hg_rb (x := v7_97.toInt) (rfl) (by omega) dX4_number_198 (fun z_118 (hz_118 : True) => ?_)
                      refine lv_i2l hx hb dX4_number_199 rfl ?_
                      refine lv_topl (fun z_119 ez_119 => ?_)
                      refine lv_ladd hx hb dX4_number_200 ?_
                      refine lv_topl (fun z_120 ez_120 => ?_)
                      refine lv_ldc2 hx hb hown (htw (.constantLong RX4 134 48) (jWr_22 _ (List.mem_of_getElem? (i := 22) rfl))) dX4_number_201 ?_
                      refine lv_lsub hx hb dX4_number_204 ?_
                      refine lv_topl (fun z_121 ez_121 => ?_)
                      refine lv_lstore (lv' := [(5, .long z_121), (0, .ref r0), (1, .int 1), (2, .int wt_86), (3, .int r_88), (4, .int v4_96), (7, .int v7_97)]) hx hb dX4_number_205 hl (by decide) rfl (fun ls hl => ?_)
                      obtain ⟨z_122, ez_122⟩ : ∃ y : Int32, y = v7_97 + 1 := ⟨_, rfl⟩
                      refine lv_iinc (v := z_122) (lv' := [(7, .int z_122), (5, .long z_121), (0, .ref r0), (1, .int 1), (2, .int wt_86), (3, .int r_88), (4, .int v4_96)]) hx hb dX4_number_207 hl (k := 6) rfl (by rw [ez_122]; rfl) (by decide) rfl (fun ls hl => ?_)
                      have hz_122 : z_122.toInt = v7_97.toInt + 1 := by rw [ez_122]; exact jb_iadd2 (rfl) (by decide) (by omega)
                      refine lv_goto (tgt := 169) hx hb dX4_number_210 (by decide) ?_
                      exact L169 z_121 z_122 _ _ hh_97 (by first | omega | (refine ⟨?_, ?_⟩ <;> (first | omega | rfl | assumption | decide | exact Or.inl rfl | exact Or.inr rfl | (simp only; omega)))) (by omega) _ (lv_sub hl [2, 3, 4, 5, 6, 1, 0] rfl)
              exact L169 (wt_86.toInt + r_88.toInt - (wt_86 : Int32).toInt : Int).toNat.succ 0 wt_86 _ _ hh_96 (by first | omega | (refine ⟨?_, ?_⟩ <;> (first | omega | rfl | assumption | decide | exact Or.inl rfl | exact Or.inr rfl | (simp only; omega)))) (by omega) _ (lv_sub hl [2, 3, 4, 5, 6, 1, 0] rfl)
            refine lv_icmp_eq (tgt := 113) hx hb dX4_number_101 (by decide) (fun c_123 => ?_) (fun c_123 => ?_)
            · skip
              have c_123' : r_95.toInt = 101 := jb_eq (rfl) ((by decide)) c_123
              first | (have hr_95_2q := hr_95_2.resolve_left (by omega); clear hr_95_2) | (have hr_95_2q := hr_95_2.resolve_right (by omega); clear hr_95_2) | try clear hr_95_2
              refine lv_iconst (v := 0) hx hb dX4_number_113 (by decide) ?_
              refine lv_istore (lv' := [(4, .int 0), (0, .ref r0), (1, .int 1), (2, .int wt_86), (3, .int r_88)]) hx hb dX4_number_114 hl (by decide) rfl (fun ls hl => ?_)
              refine lv_aload_n hx hb dX4_number_116 rfl (lv_at hl 1 rfl) ?_
              refine lv_dup hx hb dX4_number_117 rfl ?_
              refine j7_read hx hb hown hK (C := RX4) (T := TX4) (N := 12) rfl hly_6_11 hlk_47 (hh_94.at 0 rfl) dX4_number_118 ?_
              refine lv_iconst (v := 1) hx hb dX4_number_121 (by decide) ?_
              refine lv_iadd hx hb dX4_number_122 ?_
              refine lv_topi (fun z_124 ez_124 => ?_)
              have hz_124 : z_124.toInt = wt_93.toInt + 1 := by rw [ez_124]; exact jb_iadd2 (rfl) ((by decide)) (by omega)
              refine j7_put hx hb hown hK hh_94 hB hAp hB6 (C := RX4) (T := TX4) (N := 12) rfl (by decide) hg_r0 (i := 11) (by decide) hly_6_11 rfl hlk_47 rfl (ty := .int) (v := .int z_124) (by decide +kernel) rfl rfl (⟨_, rfl, by omega, by omega⟩) rfl (L1 := [(r0, 6, 9, .ref rb), (r0, 6, 10, .int pe), (r0, 6, 7, .int pv), (r0, 6, 8, .int pu), (r0, 6, 0, .ref wk), (r0, 6, 1, .ref wi), (r0, 6, 2, .ref wz), (r0, 6, 4, .ref jkf), (r0, 6, 5, .ref jks)]) [1, 2, 3, 4, 5, 6, 7, 8, 9] rfl rfl rfl dX4_number_123 (fun H_125 locs_125 hh_125 => ?_)
              clear hh_94
              refine lv_aload_n hx hb dX4_number_126 rfl (lv_at hl 1 rfl) ?_
              refine va_calli (A0 := jA base) (H0 := s.heap) (va_runV (As := []) (rest := []) ⟨hx, hb, hml, hown, hts⟩ (uX4_peek l dC dI ca base B hB hAp hB6 hB100 G0 H_125 r0 rb n_rb pe z_124) (cwV 0 hts (jgV (jWr_19 _ (List.mem_of_getElem? (i := 19) rfl)) (jWr_19 _ (List.mem_of_getElem? (i := 20) rfl)) (jWr_19 _ (List.mem_of_getElem? (i := 21) rfl)) (jWr_1 _ (List.mem_of_getElem? (i := 22) rfl)) (jWr_19 _ (List.mem_of_getElem? (i := 22) rfl))) rfl rfl rfl (by decide +kernel) ⟨by rw [← hR]; exact Nat.le_of_ble_eq_true rfl, by rw [← hR]; exact Nat.le_of_ble_eq_true rfl⟩) ⟨fun a U g mk q => by obtain ⟨q0, q1, q2, qK, q10, q11, q12, q13⟩ := q; exact ⟨q0, q1, q2, jG.calling g mk a qK, q10, q11, q12, q13⟩, hh_125.recv (C := RX4) (T := TX4) (N := 12) hB6 rfl (by decide) hg_r0 hK, fun U hU hW => ⟨rfl, hU, hh_125.2.1, hG.step hW hU hh_125.1, hg_r0, hg_rb, (hh_125.2.2.1.sub (L1 := [(r0, 6, 9, .ref rb), (r0, 6, 10, .int pe), (r0, 6, 11, .int z_124)]) [1, 2, 0] rfl), by first | omega | (refine ⟨?_, ?_, ?_, ?_, ?_⟩ <;> (first | omega | rfl | assumption | decide | exact Or.inl rfl | exact Or.inr rfl | (simp only; omega)))⟩⟩ rfl rfl hl.1 rfl (lv_room (Nat.le_of_ble_eq_true rfl)) dX4_number_127 ⟨Nat.zero_le _, Nat.zero_le _⟩) hh_125.1 (fun q _ h => h) (fun q h => h) (fun r_127 u_126 t_126 H_126 locs_126 ht_126 hvm_126 hr_127 hb_126 hz_126 hk_126 hS_126 => ?_)
              rw [ht_126] at hb_126
              obtain ⟨hb_1261, hb_1262, hb_1263, hb_1264, hb_1265⟩ := hb_126
              have hh_126 : jSt (dC, dI) B base G0 G0 EX4_numberP s.heap 0 0 [(r0, 6, 11, .int z_124), (r0, 6, 9, .ref rb), (r0, 6, 10, .int pe), (r0, 6, 7, .int pv), (r0, 6, 8, .int pu), (r0, 6, 0, .ref wk), (r0, 6, 1, .ref wi), (r0, 6, 2, .ref wz), (r0, 6, 4, .ref jkf), (r0, 6, 5, .ref jks)] [(wk, 140, 1502, ca 1, fk), (wi, 141, 1502, ca 1, fi), (wz, 142, 1502, ca 1, fz), (jkf, 144, 1502, ca 1, fa), (jks, 145, 1502, ca 1, fs)] [] H_126 locs_126 := ((hh_125.call hb_1261 hb_1262 hb_1263 hb_1264 hS_126 rfl (L1 := [(r0, 6, 11, .int z_124), (r0, 6, 9, .ref rb), (r0, 6, 10, .int pe), (r0, 6, 7, .int pv), (r0, 6, 8, .int pu), (r0, 6, 0, .ref wk), (r0, 6, 1, .ref wi), (r0, 6, 2, .ref wz), (r0, 6, 4, .ref jkf), (r0, 6, 5, .ref jks)]) [0, 1, 2, 3, 4, 5, 6, 7, 8, 9] rfl rfl (M1 := [(wk, 140, 1502, ca 1, fk), (wi, 141, 1502, ca 1, fi), (wz, 142, 1502, ca 1, fz), (jkf, 144, 1502, ca 1, fa), (jks, 145, 1502, ca 1, fs)]) [0, 1, 2, 3, 4] rfl rfl (I1 := []) [] rfl rfl).more hb_1265)
              clear hh_125 ht_126 hvm_126 hz_126 hk_126 hS_126 hb_1261 hb_1262 hb_1263 hb_1264 hb_1265
              obtain ⟨hr_127_0, hr_127_1, hr_127_2⟩ := hr_127
              refine lv_bipush (v := 43) hx hb dX4_number_130 (by decide) ?_
              have C154 : ∀ (wt_128 : Int32) (H_128 : Heap) (locs_128 : List Loc), jSt (dC, dI) B base G0 G0 EX4_numberP s.heap 0 0 [(r0, 6, 11, .int wt_128), (r0, 6, 9, .ref rb), (r0, 6, 10, .int pe), (r0, 6, 7, .int pv), (r0, 6, 8, .int pu), (r0, 6, 0, .ref wk), (r0, 6, 1, .ref wi), (r0, 6, 2, .ref wz), (r0, 6, 4, .ref jkf), (r0, 6, 5, .ref jks)] [(wk, 140, 1502, ca 1, fk), (wi, 141, 1502, ca 1, fi), (wz, 142, 1502, ca 1, fz), (jkf, 144, 1502, ca 1, fa), (jks, 145, 1502, ca 1, fs)] [] H_128 locs_128 → (pt.toInt ≤ wt_128.toInt ∧ wt_128.toInt ≤ pe.toInt ∧ z_124.toInt ≤ wt_128.toInt ∧ pt.toInt + 1 ≤ wt_128.toInt) → ∀ ls : Array Slot, lv_has ls 8 [(0, .ref r0), (1, .int 1), (2, .int wt_86), (3, .int r_88), (4, .int 0)] → W p l e R s m ([.ref r0] : List Value).toArray below meth c H_128 locs_128 0 0 Q (F0 m 154 ls []) := by
                intro wt_128 H_128 locs_128 hh_128  hi_128 ls hl
                obtain ⟨hi_128_0, hi_128_1, hi_128_2, hi_128_3⟩ := hi_128
                try clear hr_127_2
                refine lv_aload_n hx hb dX4_number_154 rfl (lv_at hl 0 rfl) ?_
                refine va_calli (A0 := jA base) (H0 := s.heap) (va_runV (As := []) (rest := []) ⟨hx, hb, hml, hown, hts⟩ (uX4_digits l dC dI ca base B hB hAp hB6 hB100 G0 H_128 r0 rb n_rb pe wt_128) (cwV 0 hts (jgV (jWr_23 _ (List.mem_of_getElem? (i := 1) rfl)) (jWr_23 _ (List.mem_of_getElem? (i := 2) rfl)) (jWr_23 _ (List.mem_of_getElem? (i := 3) rfl)) (jWr_1 _ (List.mem_of_getElem? (i := 22) rfl)) (jWr_23 _ (List.mem_of_getElem? (i := 4) rfl))) rfl rfl rfl (by decide +kernel) ⟨by rw [← hR]; exact Nat.le_of_ble_eq_true rfl, by rw [← hR]; exact Nat.le_of_ble_eq_true rfl⟩) ⟨fun a U g mk q => by obtain ⟨q0, q1, q2, qK, q10, q11, q12, q13⟩ := q; exact ⟨q0, q1, q2, jG.calling g mk a qK, q10, q11, q12, q13⟩, hh_128.recv (C := RX4) (T := TX4) (N := 12) hB6 rfl (by decide) hg_r0 hK, fun U hU hW => ⟨rfl, hU, hh_128.2.1, hG.step hW hU hh_128.1, hg_r0, hg_rb, (hh_128.2.2.1.sub (L1 := [(r0, 6, 9, .ref rb), (r0, 6, 10, .int pe), (r0, 6, 11, .int wt_128)]) [1, 2, 0] rfl), by first | omega | (refine ⟨?_, ?_, ?_, ?_, ?_, ?_⟩ <;> (first | omega | rfl | assumption | decide | exact Or.inl rfl | exact Or.inr rfl | (simp only; omega)))⟩⟩ rfl rfl hl.1 rfl (lv_room (Nat.le_of_ble_eq_true rfl)) dX4_number_155 ⟨Nat.zero_le _, Nat.zero_le _⟩) hh_128.1 (fun q _ h => h) (fun q h => h) (fun r_130 u_129 t_129 H_129 locs_129 ht_129 hvm_129 hr_130 hb_129 hz_129 hk_129 hS_129 => ?_)
                obtain ⟨qt_129, rfl⟩ : ∃ z, z = u_129 := ⟨_, rfl⟩
                rw [ht_129] at hb_129
                obtain ⟨hb_1291, hb_1292, hb_1293, hb_1294, hb_1295⟩ := hb_129
                have hh_129 : jSt (dC, dI) B base G0 G0 EX4_numberP s.heap 0 0 [(r0, 6, 11, .int qt_129), (r0, 6, 9, .ref rb), (r0, 6, 10, .int pe), (r0, 6, 7, .int pv), (r0, 6, 8, .int pu), (r0, 6, 0, .ref wk), (r0, 6, 1, .ref wi), (r0, 6, 2, .ref wz), (r0, 6, 4, .ref jkf), (r0, 6, 5, .ref jks)] [(wk, 140, 1502, ca 1, fk), (wi, 141, 1502, ca 1, fi), (wz, 142, 1502, ca 1, fz), (jkf, 144, 1502, ca 1, fa), (jks, 145, 1502, ca 1, fs)] [] H_129 locs_129 := ((hh_128.call hb_1291 hb_1292 hb_1293 hb_1294 hS_129 rfl (L1 := [(r0, 6, 9, .ref rb), (r0, 6, 10, .int pe), (r0, 6, 7, .int pv), (r0, 6, 8, .int pu), (r0, 6, 0, .ref wk), (r0, 6, 1, .ref wi), (r0, 6, 2, .ref wz), (r0, 6, 4, .ref jkf), (r0, 6, 5, .ref jks)]) [1, 2, 3, 4, 5, 6, 7, 8, 9] rfl rfl (M1 := [(wk, 140, 1502, ca 1, fk), (wi, 141, 1502, ca 1, fi), (wz, 142, 1502, ca 1, fz), (jkf, 144, 1502, ca 1, fa), (jks, 145, 1502, ca 1, fs)]) [0, 1, 2, 3, 4] rfl rfl (I1 := []) [] rfl rfl).more hb_1295)
                clear hh_128 ht_129 hvm_129 hz_129 hk_129 hS_129 hb_1291 hb_1292 hb_1293 hb_1294 hb_1295
                obtain ⟨hr_130_0, hr_130_1, hr_130_2⟩ := hr_130
                refine lv_if_ne (tgt := 163) hx hb dX4_number_158 (by decide) (fun c_131 => ?_) (fun c_131 => ?_)
                · skip
                  have c_131' : r_130.toInt ≠ 0 := jb_ne (rfl) ((by decide)) c_131
                  exact C163 0 qt_129 _ _ hh_129 (Or.inl rfl) (by first | omega | (refine ⟨?_, ?_, ?_, ?_⟩ <;> (first | omega | rfl | assumption | decide | exact Or.inl rfl | exact Or.inr rfl | (simp only; omega)))) _ (lv_sub hl [0, 1, 2, 3, 4] rfl)
                · skip
                  have c_131' : r_130.toInt = 0 := jb_ne_n (rfl) ((by decide)) c_131
                  refine lv_iconst (v := (-1)) hx hb dX4_number_161 (by decide) ?_
                  rw [hQ]
                  exact W.iret (v := (-1)) hx hb hr (fun t ht hW => ⟨⟨(-1), (qt_129, pv, pu, fk, fi, fz, fa, fs), rfl, by (try dsimp only); refine ⟨by omega, by omega, by omega, by omega, by omega, by omega, ?_⟩; exact jVr.no (by omega) (by omega) (by omega) (by omega), ⟨hh_129.rt (M1 := [(r0, 6, 11, .int qt_129), (r0, 6, 7, .int pv), (r0, 6, 8, .int pu)]) [0, 3, 4] rfl ht, by rw [ht]; exact hh_129.2.2.2.2.2.2.2.1.sub [0, 1, 2, 3, 4] rfl⟩⟩, by rw [ht]; try exact hh_129.1.1, fun q h9 hq => by rw [ht]; try exact hh_129.1.2.1 q h9 hq⟩) hh_129.1.2.2 dX4_number_162
              refine lv_icmp_eq (tgt := 144) hx hb dX4_number_132 (by decide) (fun c_132 => ?_) (fun c_132 => ?_)
              · skip
                have c_132' : r_127.toInt = 43 := jb_eq (rfl) ((by decide)) c_132
                first | (have hr_127_2q := hr_127_2.resolve_left (by omega); clear hr_127_2) | (have hr_127_2q := hr_127_2.resolve_right (by omega); clear hr_127_2) | try clear hr_127_2
                refine lv_aload_n hx hb dX4_number_144 rfl (lv_at hl 1 rfl) ?_
                refine lv_dup hx hb dX4_number_145 rfl ?_
                refine j7_read hx hb hown hK (C := RX4) (T := TX4) (N := 12) rfl hly_6_11 hlk_47 (hh_126.at 0 rfl) dX4_number_146 ?_
                refine lv_iconst (v := 1) hx hb dX4_number_149 (by decide) ?_
                refine lv_iadd hx hb dX4_number_150 ?_
                refine lv_topi (fun z_133 ez_133 => ?_)
                have hz_133 : z_133.toInt = z_124.toInt + 1 := by rw [ez_133]; exact jb_iadd2 (rfl) ((by decide)) (by omega)
                refine j7_put hx hb hown hK hh_126 hB hAp hB6 (C := RX4) (T := TX4) (N := 12) rfl (by decide) hg_r0 (i := 11) (by decide) hly_6_11 rfl hlk_47 rfl (ty := .int) (v := .int z_133) (by decide +kernel) rfl rfl (⟨_, rfl, by omega, by omega⟩) rfl (L1 := [(r0, 6, 9, .ref rb), (r0, 6, 10, .int pe), (r0, 6, 7, .int pv), (r0, 6, 8, .int pu), (r0, 6, 0, .ref wk), (r0, 6, 1, .ref wi), (r0, 6, 2, .ref wz), (r0, 6, 4, .ref jkf), (r0, 6, 5, .ref jks)]) [1, 2, 3, 4, 5, 6, 7, 8, 9] rfl rfl rfl dX4_number_151 (fun H_134 locs_134 hh_134 => ?_)
                clear hh_126
                exact C154 z_133 _ _ hh_134 (by first | omega | (refine ⟨?_, ?_, ?_, ?_⟩ <;> (first | omega | rfl | assumption | decide | exact Or.inl rfl | exact Or.inr rfl | (simp only; omega)))) _ (lv_sub hl [1, 2, 3, 4, 0] rfl)
              · skip
                have c_132' : r_127.toInt ≠ 43 := jb_eq_n (rfl) ((by decide)) c_132
                try clear hr_127_2
                refine lv_aload_n hx hb dX4_number_135 rfl (lv_at hl 1 rfl) ?_
                refine va_calli (A0 := jA base) (H0 := s.heap) (va_runV (As := []) (rest := []) ⟨hx, hb, hml, hown, hts⟩ (uX4_peek l dC dI ca base B hB hAp hB6 hB100 G0 H_126 r0 rb n_rb pe z_124) (cwV 0 hts (jgV (jWr_19 _ (List.mem_of_getElem? (i := 19) rfl)) (jWr_19 _ (List.mem_of_getElem? (i := 20) rfl)) (jWr_19 _ (List.mem_of_getElem? (i := 21) rfl)) (jWr_1 _ (List.mem_of_getElem? (i := 22) rfl)) (jWr_19 _ (List.mem_of_getElem? (i := 22) rfl))) rfl rfl rfl (by decide +kernel) ⟨by rw [← hR]; exact Nat.le_of_ble_eq_true rfl, by rw [← hR]; exact Nat.le_of_ble_eq_true rfl⟩) ⟨fun a U g mk q => by obtain ⟨q0, q1, q2, qK, q10, q11, q12, q13⟩ := q; exact ⟨q0, q1, q2, jG.calling g mk a qK, q10, q11, q12, q13⟩, hh_126.recv (C := RX4) (T := TX4) (N := 12) hB6 rfl (by decide) hg_r0 hK, fun U hU hW => ⟨rfl, hU, hh_126.2.1, hG.step hW hU hh_126.1, hg_r0, hg_rb, (hh_126.2.2.1.sub (L1 := [(r0, 6, 9, .ref rb), (r0, 6, 10, .int pe), (r0, 6, 11, .int z_124)]) [1, 2, 0] rfl), by first | omega | (refine ⟨?_, ?_, ?_, ?_, ?_⟩ <;> (first | omega | rfl | assumption | decide | exact Or.inl rfl | exact Or.inr rfl | (simp only; omega)))⟩⟩ rfl rfl hl.1 rfl (lv_room (Nat.le_of_ble_eq_true rfl)) dX4_number_136 ⟨Nat.zero_le _, Nat.zero_le _⟩) hh_126.1 (fun q _ h => h) (fun q h => h) (fun r_136 u_135 t_135 H_135 locs_135 ht_135 hvm_135 hr_136 hb_135 hz_135 hk_135 hS_135 => ?_)
                rw [ht_135] at hb_135
                obtain ⟨hb_1351, hb_1352, hb_1353, hb_1354, hb_1355⟩ := hb_135
                have hh_135 : jSt (dC, dI) B base G0 G0 EX4_numberP s.heap 0 0 [(r0, 6, 11, .int z_124), (r0, 6, 9, .ref rb), (r0, 6, 10, .int pe), (r0, 6, 7, .int pv), (r0, 6, 8, .int pu), (r0, 6, 0, .ref wk), (r0, 6, 1, .ref wi), (r0, 6, 2, .ref wz), (r0, 6, 4, .ref jkf), (r0, 6, 5, .ref jks)] [(wk, 140, 1502, ca 1, fk), (wi, 141, 1502, ca 1, fi), (wz, 142, 1502, ca 1, fz), (jkf, 144, 1502, ca 1, fa), (jks, 145, 1502, ca 1, fs)] [] H_135 locs_135 := ((hh_126.call hb_1351 hb_1352 hb_1353 hb_1354 hS_135 rfl (L1 := [(r0, 6, 11, .int z_124), (r0, 6, 9, .ref rb), (r0, 6, 10, .int pe), (r0, 6, 7, .int pv), (r0, 6, 8, .int pu), (r0, 6, 0, .ref wk), (r0, 6, 1, .ref wi), (r0, 6, 2, .ref wz), (r0, 6, 4, .ref jkf), (r0, 6, 5, .ref jks)]) [0, 1, 2, 3, 4, 5, 6, 7, 8, 9] rfl rfl (M1 := [(wk, 140, 1502, ca 1, fk), (wi, 141, 1502, ca 1, fi), (wz, 142, 1502, ca 1, fz), (jkf, 144, 1502, ca 1, fa), (jks, 145, 1502, ca 1, fs)]) [0, 1, 2, 3, 4] rfl rfl (I1 := []) [] rfl rfl).more hb_1355)
                clear hh_126 ht_135 hvm_135 hz_135 hk_135 hS_135 hb_1351 hb_1352 hb_1353 hb_1354 hb_1355
                obtain ⟨hr_136_0, hr_136_1, hr_136_2⟩ := hr_136
                refine lv_bipush (v := 45) hx hb dX4_number_139 (by decide) ?_
                refine lv_icmp_ne (tgt := 154) hx hb dX4_number_141 (by decide) (fun c_137 => ?_) (fun c_137 => ?_)
                · skip
                  have c_137' : r_136.toInt ≠ 45 := jb_ne (rfl) ((by decide)) c_137
                  try clear hr_136_2
                  exact C154 z_124 _ _ hh_135 (by first | omega | (refine ⟨?_, ?_, ?_, ?_⟩ <;> (first | omega | rfl | assumption | decide | exact Or.inl rfl | exact Or.inr rfl | (simp only; omega)))) _ (lv_sub hl [1, 2, 3, 4, 0] rfl)
                · skip
                  have c_137' : r_136.toInt = 45 := jb_ne_n (rfl) ((by decide)) c_137
                  first | (have hr_136_2q := hr_136_2.resolve_left (by omega); clear hr_136_2) | (have hr_136_2q := hr_136_2.resolve_right (by omega); clear hr_136_2) | try clear hr_136_2
                  refine lv_aload_n hx hb dX4_number_144 rfl (lv_at hl 1 rfl) ?_
                  refine lv_dup hx hb dX4_number_145 rfl ?_
                  refine j7_read hx hb hown hK (C := RX4) (T := TX4) (N := 12) rfl hly_6_11 hlk_47 (hh_135.at 0 rfl) dX4_number_146 ?_
                  refine lv_iconst (v := 1) hx hb dX4_number_149 (by decide) ?_
                  refine lv_iadd hx hb dX4_number_150 ?_
                  refine lv_topi (fun z_138 ez_138 => ?_)
                  have hz_138 : z_138.toInt = z_124.toInt + 1 := by rw [ez_138]; exact jb_iadd2 (rfl) ((by decide)) (by omega)
                  refine j7_put hx hb hown hK hh_135 hB hAp hB6 (C := RX4) (T := TX4) (N := 12) rfl (by decide) hg_r0 (i := 11) (by decide) hly_6_11 rfl hlk_47 rfl (ty := .int) (v := .int z_138) (by decide +kernel) rfl rfl (⟨_, rfl, by omega, by omega⟩) rfl (L1 := [(r0, 6, 9, .ref rb), (r0, 6, 10, .int pe), (r0, 6, 7, .int pv), (r0, 6, 8, .int pu), (r0, 6, 0, .ref wk), (r0, 6, 1, .ref wi), (r0, 6, 2, .ref wz), (r0, 6, 4, .ref jkf), (r0, 6, 5, .ref jks)]) [1, 2, 3, 4, 5, 6, 7, 8, 9] rfl rfl rfl dX4_number_151 (fun H_139 locs_139 hh_139 => ?_)
                  clear hh_135
                  exact C154 z_138 _ _ hh_139 (by first | omega | (refine ⟨?_, ?_, ?_, ?_⟩ <;> (first | omega | rfl | assumption | decide | exact Or.inl rfl | exact Or.inr rfl | (simp only; omega)))) _ (lv_sub hl [1, 2, 3, 4, 0] rfl)
            · skip
              have c_123' : r_95.toInt ≠ 101 := jb_eq_n (rfl) ((by decide)) c_123
              try clear hr_95_2
              refine lv_aload_n hx hb dX4_number_104 rfl (lv_at hl 0 rfl) ?_
              refine va_calli (A0 := jA base) (H0 := s.heap) (va_runV (As := []) (rest := []) ⟨hx, hb, hml, hown, hts⟩ (uX4_peek l dC dI ca base B hB hAp hB6 hB100 G0 H_94 r0 rb n_rb pe wt_93) (cwV 0 hts (jgV (jWr_19 _ (List.mem_of_getElem? (i := 19) rfl)) (jWr_19 _ (List.mem_of_getElem? (i := 20) rfl)) (jWr_19 _ (List.mem_of_getElem? (i := 21) rfl)) (jWr_1 _ (List.mem_of_getElem? (i := 22) rfl)) (jWr_19 _ (List.mem_of_getElem? (i := 22) rfl))) rfl rfl rfl (by decide +kernel) ⟨by rw [← hR]; exact Nat.le_of_ble_eq_true rfl, by rw [← hR]; exact Nat.le_of_ble_eq_true rfl⟩) ⟨fun a U g mk q => by obtain ⟨q0, q1, q2, qK, q10, q11, q12, q13⟩ := q; exact ⟨q0, q1, q2, jG.calling g mk a qK, q10, q11, q12, q13⟩, hh_94.recv (C := RX4) (T := TX4) (N := 12) hB6 rfl (by decide) hg_r0 hK, fun U hU hW => ⟨rfl, hU, hh_94.2.1, hG.step hW hU hh_94.1, hg_r0, hg_rb, (hh_94.2.2.1.sub (L1 := [(r0, 6, 9, .ref rb), (r0, 6, 10, .int pe), (r0, 6, 11, .int wt_93)]) [1, 2, 0] rfl), by first | omega | (refine ⟨?_, ?_, ?_, ?_, ?_⟩ <;> (first | omega | rfl | assumption | decide | exact Or.inl rfl | exact Or.inr rfl | (simp only; omega)))⟩⟩ rfl rfl hl.1 rfl (lv_room (Nat.le_of_ble_eq_true rfl)) dX4_number_105 ⟨Nat.zero_le _, Nat.zero_le _⟩) hh_94.1 (fun q _ h => h) (fun q h => h) (fun r_141 u_140 t_140 H_140 locs_140 ht_140 hvm_140 hr_141 hb_140 hz_140 hk_140 hS_140 => ?_)
              rw [ht_140] at hb_140
              obtain ⟨hb_1401, hb_1402, hb_1403, hb_1404, hb_1405⟩ := hb_140
              have hh_140 : jSt (dC, dI) B base G0 G0 EX4_numberP s.heap 0 0 [(r0, 6, 11, .int wt_93), (r0, 6, 9, .ref rb), (r0, 6, 10, .int pe), (r0, 6, 7, .int pv), (r0, 6, 8, .int pu), (r0, 6, 0, .ref wk), (r0, 6, 1, .ref wi), (r0, 6, 2, .ref wz), (r0, 6, 4, .ref jkf), (r0, 6, 5, .ref jks)] [(wk, 140, 1502, ca 1, fk), (wi, 141, 1502, ca 1, fi), (wz, 142, 1502, ca 1, fz), (jkf, 144, 1502, ca 1, fa), (jks, 145, 1502, ca 1, fs)] [] H_140 locs_140 := ((hh_94.call hb_1401 hb_1402 hb_1403 hb_1404 hS_140 rfl (L1 := [(r0, 6, 11, .int wt_93), (r0, 6, 9, .ref rb), (r0, 6, 10, .int pe), (r0, 6, 7, .int pv), (r0, 6, 8, .int pu), (r0, 6, 0, .ref wk), (r0, 6, 1, .ref wi), (r0, 6, 2, .ref wz), (r0, 6, 4, .ref jkf), (r0, 6, 5, .ref jks)]) [0, 1, 2, 3, 4, 5, 6, 7, 8, 9] rfl rfl (M1 := [(wk, 140, 1502, ca 1, fk), (wi, 141, 1502, ca 1, fi), (wz, 142, 1502, ca 1, fz), (jkf, 144, 1502, ca 1, fa), (jks, 145, 1502, ca 1, fs)]) [0, 1, 2, 3, 4] rfl rfl (I1 := []) [] rfl rfl).more hb_1405)
              clear hh_94 ht_140 hvm_140 hz_140 hk_140 hS_140 hb_1401 hb_1402 hb_1403 hb_1404 hb_1405
              obtain ⟨hr_141_0, hr_141_1, hr_141_2⟩ := hr_141
              refine lv_bipush (v := 69) hx hb dX4_number_108 (by decide) ?_
              refine lv_icmp_ne (tgt := 163) hx hb dX4_number_110 (by decide) (fun c_142 => ?_) (fun c_142 => ?_)
              · skip
                have c_142' : r_141.toInt ≠ 69 := jb_ne (rfl) ((by decide)) c_142
                try clear hr_141_2
                exact C163 v4_93 wt_93 _ _ hh_140 (hb_v4_93) (by first | omega | (refine ⟨?_, ?_, ?_, ?_⟩ <;> (first | omega | rfl | assumption | decide | exact Or.inl rfl | exact Or.inr rfl | (simp only; omega)))) _ (lv_sub hl [0, 1, 2, 3, 4] rfl)
              · skip
                have c_142' : r_141.toInt = 69 := jb_ne_n (rfl) ((by decide)) c_142
                first | (have hr_141_2q := hr_141_2.resolve_left (by omega); clear hr_141_2) | (have hr_141_2q := hr_141_2.resolve_right (by omega); clear hr_141_2) | try clear hr_141_2
                refine lv_iconst (v := 0) hx hb dX4_number_113 (by decide) ?_
                refine lv_istore (lv' := [(4, .int 0), (0, .ref r0), (1, .int 1), (2, .int wt_86), (3, .int r_88)]) hx hb dX4_number_114 hl (by decide) rfl (fun ls hl => ?_)
                refine lv_aload_n hx hb dX4_number_116 rfl (lv_at hl 1 rfl) ?_
                refine lv_dup hx hb dX4_number_117 rfl ?_
                refine j7_read hx hb hown hK (C := RX4) (T := TX4) (N := 12) rfl hly_6_11 hlk_47 (hh_140.at 0 rfl) dX4_number_118 ?_
                refine lv_iconst (v := 1) hx hb dX4_number_121 (by decide) ?_
                refine lv_iadd hx hb dX4_number_122 ?_
                refine lv_topi (fun z_143 ez_143 => ?_)
                have hz_143 : z_143.toInt = wt_93.toInt + 1 := by rw [ez_143]; exact jb_iadd2 (rfl) ((by decide)) (by omega)
                refine j7_put hx hb hown hK hh_140 hB hAp hB6 (C := RX4) (T := TX4) (N := 12) rfl (by decide) hg_r0 (i := 11) (by decide) hly_6_11 rfl hlk_47 rfl (ty := .int) (v := .int z_143) (by decide +kernel) rfl rfl (⟨_, rfl, by omega, by omega⟩) rfl (L1 := [(r0, 6, 9, .ref rb), (r0, 6, 10, .int pe), (r0, 6, 7, .int pv), (r0, 6, 8, .int pu), (r0, 6, 0, .ref wk), (r0, 6, 1, .ref wi), (r0, 6, 2, .ref wz), (r0, 6, 4, .ref jkf), (r0, 6, 5, .ref jks)]) [1, 2, 3, 4, 5, 6, 7, 8, 9] rfl rfl rfl dX4_number_123 (fun H_144 locs_144 hh_144 => ?_)
                clear hh_140
                refine lv_aload_n hx hb dX4_number_126 rfl (lv_at hl 1 rfl) ?_
                refine va_calli (A0 := jA base) (H0 := s.heap) (va_runV (As := []) (rest := []) ⟨hx, hb, hml, hown, hts⟩ (uX4_peek l dC dI ca base B hB hAp hB6 hB100 G0 H_144 r0 rb n_rb pe z_143) (cwV 0 hts (jgV (jWr_19 _ (List.mem_of_getElem? (i := 19) rfl)) (jWr_19 _ (List.mem_of_getElem? (i := 20) rfl)) (jWr_19 _ (List.mem_of_getElem? (i := 21) rfl)) (jWr_1 _ (List.mem_of_getElem? (i := 22) rfl)) (jWr_19 _ (List.mem_of_getElem? (i := 22) rfl))) rfl rfl rfl (by decide +kernel) ⟨by rw [← hR]; exact Nat.le_of_ble_eq_true rfl, by rw [← hR]; exact Nat.le_of_ble_eq_true rfl⟩) ⟨fun a U g mk q => by obtain ⟨q0, q1, q2, qK, q10, q11, q12, q13⟩ := q; exact ⟨q0, q1, q2, jG.calling g mk a qK, q10, q11, q12, q13⟩, hh_144.recv (C := RX4) (T := TX4) (N := 12) hB6 rfl (by decide) hg_r0 hK, fun U hU hW => ⟨rfl, hU, hh_144.2.1, hG.step hW hU hh_144.1, hg_r0, hg_rb, (hh_144.2.2.1.sub (L1 := [(r0, 6, 9, .ref rb), (r0, 6, 10, .int pe), (r0, 6, 11, .int z_143)]) [1, 2, 0] rfl), by first | omega | (refine ⟨?_, ?_, ?_, ?_, ?_⟩ <;> (first | omega | rfl | assumption | decide | exact Or.inl rfl | exact Or.inr rfl | (simp only; omega)))⟩⟩ rfl rfl hl.1 rfl (lv_room (Nat.le_of_ble_eq_true rfl)) dX4_number_127 ⟨Nat.zero_le _, Nat.zero_le _⟩) hh_144.1 (fun q _ h => h) (fun q h => h) (fun r_146 u_145 t_145 H_145 locs_145 ht_145 hvm_145 hr_146 hb_145 hz_145 hk_145 hS_145 => ?_)
                rw [ht_145] at hb_145
                obtain ⟨hb_1451, hb_1452, hb_1453, hb_1454, hb_1455⟩ := hb_145
                have hh_145 : jSt (dC, dI) B base G0 G0 EX4_numberP s.heap 0 0 [(r0, 6, 11, .int z_143), (r0, 6, 9, .ref rb), (r0, 6, 10, .int pe), (r0, 6, 7, .int pv), (r0, 6, 8, .int pu), (r0, 6, 0, .ref wk), (r0, 6, 1, .ref wi), (r0, 6, 2, .ref wz), (r0, 6, 4, .ref jkf), (r0, 6, 5, .ref jks)] [(wk, 140, 1502, ca 1, fk), (wi, 141, 1502, ca 1, fi), (wz, 142, 1502, ca 1, fz), (jkf, 144, 1502, ca 1, fa), (jks, 145, 1502, ca 1, fs)] [] H_145 locs_145 := ((hh_144.call hb_1451 hb_1452 hb_1453 hb_1454 hS_145 rfl (L1 := [(r0, 6, 11, .int z_143), (r0, 6, 9, .ref rb), (r0, 6, 10, .int pe), (r0, 6, 7, .int pv), (r0, 6, 8, .int pu), (r0, 6, 0, .ref wk), (r0, 6, 1, .ref wi), (r0, 6, 2, .ref wz), (r0, 6, 4, .ref jkf), (r0, 6, 5, .ref jks)]) [0, 1, 2, 3, 4, 5, 6, 7, 8, 9] rfl rfl (M1 := [(wk, 140, 1502, ca 1, fk), (wi, 141, 1502, ca 1, fi), (wz, 142, 1502, ca 1, fz), (jkf, 144, 1502, ca 1, fa), (jks, 145, 1502, ca 1, fs)]) [0, 1, 2, 3, 4] rfl rfl (I1 := []) [] rfl rfl).more hb_1455)
                clear hh_144 ht_145 hvm_145 hz_145 hk_145 hS_145 hb_1451 hb_1452 hb_1453 hb_1454 hb_1455
                obtain ⟨hr_146_0, hr_146_1, hr_146_2⟩ := hr_146
                refine lv_bipush (v := 43) hx hb dX4_number_130 (by decide) ?_
                have C154 : ∀ (wt_147 : Int32) (H_147 : Heap) (locs_147 : List Loc), jSt (dC, dI) B base G0 G0 EX4_numberP s.heap 0 0 [(r0, 6, 11, .int wt_147), (r0, 6, 9, .ref rb), (r0, 6, 10, .int pe), (r0, 6, 7, .int pv), (r0, 6, 8, .int pu), (r0, 6, 0, .ref wk), (r0, 6, 1, .ref wi), (r0, 6, 2, .ref wz), (r0, 6, 4, .ref jkf), (r0, 6, 5, .ref jks)] [(wk, 140, 1502, ca 1, fk), (wi, 141, 1502, ca 1, fi), (wz, 142, 1502, ca 1, fz), (jkf, 144, 1502, ca 1, fa), (jks, 145, 1502, ca 1, fs)] [] H_147 locs_147 → (pt.toInt ≤ wt_147.toInt ∧ wt_147.toInt ≤ pe.toInt ∧ z_143.toInt ≤ wt_147.toInt ∧ pt.toInt + 1 ≤ wt_147.toInt) → ∀ ls : Array Slot, lv_has ls 8 [(0, .ref r0), (1, .int 1), (2, .int wt_86), (3, .int r_88), (4, .int 0)] → W p l e R s m ([.ref r0] : List Value).toArray below meth c H_147 locs_147 0 0 Q (F0 m 154 ls []) := by
                  intro wt_147 H_147 locs_147 hh_147  hi_147 ls hl
                  obtain ⟨hi_147_0, hi_147_1, hi_147_2, hi_147_3⟩ := hi_147
                  try clear hr_146_2
                  refine lv_aload_n hx hb dX4_number_154 rfl (lv_at hl 0 rfl) ?_
                  refine va_calli (A0 := jA base) (H0 := s.heap) (va_runV (As := []) (rest := []) ⟨hx, hb, hml, hown, hts⟩ (uX4_digits l dC dI ca base B hB hAp hB6 hB100 G0 H_147 r0 rb n_rb pe wt_147) (cwV 0 hts (jgV (jWr_23 _ (List.mem_of_getElem? (i := 1) rfl)) (jWr_23 _ (List.mem_of_getElem? (i := 2) rfl)) (jWr_23 _ (List.mem_of_getElem? (i := 3) rfl)) (jWr_1 _ (List.mem_of_getElem? (i := 22) rfl)) (jWr_23 _ (List.mem_of_getElem? (i := 4) rfl))) rfl rfl rfl (by decide +kernel) ⟨by rw [← hR]; exact Nat.le_of_ble_eq_true rfl, by rw [← hR]; exact Nat.le_of_ble_eq_true rfl⟩) ⟨fun a U g mk q => by obtain ⟨q0, q1, q2, qK, q10, q11, q12, q13⟩ := q; exact ⟨q0, q1, q2, jG.calling g mk a qK, q10, q11, q12, q13⟩, hh_147.recv (C := RX4) (T := TX4) (N := 12) hB6 rfl (by decide) hg_r0 hK, fun U hU hW => ⟨rfl, hU, hh_147.2.1, hG.step hW hU hh_147.1, hg_r0, hg_rb, (hh_147.2.2.1.sub (L1 := [(r0, 6, 9, .ref rb), (r0, 6, 10, .int pe), (r0, 6, 11, .int wt_147)]) [1, 2, 0] rfl), by first | omega | (refine ⟨?_, ?_, ?_, ?_, ?_, ?_⟩ <;> (first | omega | rfl | assumption | decide | exact Or.inl rfl | exact Or.inr rfl | (simp only; omega)))⟩⟩ rfl rfl hl.1 rfl (lv_room (Nat.le_of_ble_eq_true rfl)) dX4_number_155 ⟨Nat.zero_le _, Nat.zero_le _⟩) hh_147.1 (fun q _ h => h) (fun q h => h) (fun r_149 u_148 t_148 H_148 locs_148 ht_148 hvm_148 hr_149 hb_148 hz_148 hk_148 hS_148 => ?_)
                  obtain ⟨qt_148, rfl⟩ : ∃ z, z = u_148 := ⟨_, rfl⟩
                  rw [ht_148] at hb_148
                  obtain ⟨hb_1481, hb_1482, hb_1483, hb_1484, hb_1485⟩ := hb_148
                  have hh_148 : jSt (dC, dI) B base G0 G0 EX4_numberP s.heap 0 0 [(r0, 6, 11, .int qt_148), (r0, 6, 9, .ref rb), (r0, 6, 10, .int pe), (r0, 6, 7, .int pv), (r0, 6, 8, .int pu), (r0, 6, 0, .ref wk), (r0, 6, 1, .ref wi), (r0, 6, 2, .ref wz), (r0, 6, 4, .ref jkf), (r0, 6, 5, .ref jks)] [(wk, 140, 1502, ca 1, fk), (wi, 141, 1502, ca 1, fi), (wz, 142, 1502, ca 1, fz), (jkf, 144, 1502, ca 1, fa), (jks, 145, 1502, ca 1, fs)] [] H_148 locs_148 := ((hh_147.call hb_1481 hb_1482 hb_1483 hb_1484 hS_148 rfl (L1 := [(r0, 6, 9, .ref rb), (r0, 6, 10, .int pe), (r0, 6, 7, .int pv), (r0, 6, 8, .int pu), (r0, 6, 0, .ref wk), (r0, 6, 1, .ref wi), (r0, 6, 2, .ref wz), (r0, 6, 4, .ref jkf), (r0, 6, 5, .ref jks)]) [1, 2, 3, 4, 5, 6, 7, 8, 9] rfl rfl (M1 := [(wk, 140, 1502, ca 1, fk), (wi, 141, 1502, ca 1, fi), (wz, 142, 1502, ca 1, fz), (jkf, 144, 1502, ca 1, fa), (jks, 145, 1502, ca 1, fs)]) [0, 1, 2, 3, 4] rfl rfl (I1 := []) [] rfl rfl).more hb_1485)
                  clear hh_147 ht_148 hvm_148 hz_148 hk_148 hS_148 hb_1481 hb_1482 hb_1483 hb_1484 hb_1485
                  obtain ⟨hr_149_0, hr_149_1, hr_149_2⟩ := hr_149
                  refine lv_if_ne (tgt := 163) hx hb dX4_number_158 (by decide) (fun c_150 => ?_) (fun c_150 => ?_)
                  · skip
                    have c_150' : r_149.toInt ≠ 0 := jb_ne (rfl) ((by decide)) c_150
                    exact C163 0 qt_148 _ _ hh_148 (Or.inl rfl) (by first | omega | (refine ⟨?_, ?_, ?_, ?_⟩ <;> (first | omega | rfl | assumption | decide | exact Or.inl rfl | exact Or.inr rfl | (simp only; omega)))) _ (lv_sub hl [0, 1, 2, 3, 4] rfl)
                  · skip
                    have c_150' : r_149.toInt = 0 := jb_ne_n (rfl) ((by decide)) c_150
                    refine lv_iconst (v := (-1)) hx hb dX4_number_161 (by decide) ?_
                    rw [hQ]
                    exact W.iret (v := (-1)) hx hb hr (fun t ht hW => ⟨⟨(-1), (qt_148, pv, pu, fk, fi, fz, fa, fs), rfl, by (try dsimp only); refine ⟨by omega, by omega, by omega, by omega, by omega, by omega, ?_⟩; exact jVr.no (by omega) (by omega) (by omega) (by omega), ⟨hh_148.rt (M1 := [(r0, 6, 11, .int qt_148), (r0, 6, 7, .int pv), (r0, 6, 8, .int pu)]) [0, 3, 4] rfl ht, by rw [ht]; exact hh_148.2.2.2.2.2.2.2.1.sub [0, 1, 2, 3, 4] rfl⟩⟩, by rw [ht]; try exact hh_148.1.1, fun q h9 hq => by rw [ht]; try exact hh_148.1.2.1 q h9 hq⟩) hh_148.1.2.2 dX4_number_162
                refine lv_icmp_eq (tgt := 144) hx hb dX4_number_132 (by decide) (fun c_151 => ?_) (fun c_151 => ?_)
                · skip
                  have c_151' : r_146.toInt = 43 := jb_eq (rfl) ((by decide)) c_151
                  first | (have hr_146_2q := hr_146_2.resolve_left (by omega); clear hr_146_2) | (have hr_146_2q := hr_146_2.resolve_right (by omega); clear hr_146_2) | try clear hr_146_2
                  refine lv_aload_n hx hb dX4_number_144 rfl (lv_at hl 1 rfl) ?_
                  refine lv_dup hx hb dX4_number_145 rfl ?_
                  refine j7_read hx hb hown hK (C := RX4) (T := TX4) (N := 12) rfl hly_6_11 hlk_47 (hh_145.at 0 rfl) dX4_number_146 ?_
                  refine lv_iconst (v := 1) hx hb dX4_number_149 (by decide) ?_
                  refine lv_iadd hx hb dX4_number_150 ?_
                  refine lv_topi (fun z_152 ez_152 => ?_)
                  have hz_152 : z_152.toInt = z_143.toInt + 1 := by rw [ez_152]; exact jb_iadd2 (rfl) ((by decide)) (by omega)
                  refine j7_put hx hb hown hK hh_145 hB hAp hB6 (C := RX4) (T := TX4) (N := 12) rfl (by decide) hg_r0 (i := 11) (by decide) hly_6_11 rfl hlk_47 rfl (ty := .int) (v := .int z_152) (by decide +kernel) rfl rfl (⟨_, rfl, by omega, by omega⟩) rfl (L1 := [(r0, 6, 9, .ref rb), (r0, 6, 10, .int pe), (r0, 6, 7, .int pv), (r0, 6, 8, .int pu), (r0, 6, 0, .ref wk), (r0, 6, 1, .ref wi), (r0, 6, 2, .ref wz), (r0, 6, 4, .ref jkf), (r0, 6, 5, .ref jks)]) [1, 2, 3, 4, 5, 6, 7, 8, 9] rfl rfl rfl dX4_number_151 (fun H_153 locs_153 hh_153 => ?_)
                  clear hh_145
                  exact C154 z_152 _ _ hh_153 (by first | omega | (refine ⟨?_, ?_, ?_, ?_⟩ <;> (first | omega | rfl | assumption | decide | exact Or.inl rfl | exact Or.inr rfl | (simp only; omega)))) _ (lv_sub hl [1, 2, 3, 4, 0] rfl)
                · skip
                  have c_151' : r_146.toInt ≠ 43 := jb_eq_n (rfl) ((by decide)) c_151
                  try clear hr_146_2
                  refine lv_aload_n hx hb dX4_number_135 rfl (lv_at hl 1 rfl) ?_
                  refine va_calli (A0 := jA base) (H0 := s.heap) (va_runV (As := []) (rest := []) ⟨hx, hb, hml, hown, hts⟩ (uX4_peek l dC dI ca base B hB hAp hB6 hB100 G0 H_145 r0 rb n_rb pe z_143) (cwV 0 hts (jgV (jWr_19 _ (List.mem_of_getElem? (i := 19) rfl)) (jWr_19 _ (List.mem_of_getElem? (i := 20) rfl)) (jWr_19 _ (List.mem_of_getElem? (i := 21) rfl)) (jWr_1 _ (List.mem_of_getElem? (i := 22) rfl)) (jWr_19 _ (List.mem_of_getElem? (i := 22) rfl))) rfl rfl rfl (by decide +kernel) ⟨by rw [← hR]; exact Nat.le_of_ble_eq_true rfl, by rw [← hR]; exact Nat.le_of_ble_eq_true rfl⟩) ⟨fun a U g mk q => by obtain ⟨q0, q1, q2, qK, q10, q11, q12, q13⟩ := q; exact ⟨q0, q1, q2, jG.calling g mk a qK, q10, q11, q12, q13⟩, hh_145.recv (C := RX4) (T := TX4) (N := 12) hB6 rfl (by decide) hg_r0 hK, fun U hU hW => ⟨rfl, hU, hh_145.2.1, hG.step hW hU hh_145.1, hg_r0, hg_rb, (hh_145.2.2.1.sub (L1 := [(r0, 6, 9, .ref rb), (r0, 6, 10, .int pe), (r0, 6, 11, .int z_143)]) [1, 2, 0] rfl), by first | omega | (refine ⟨?_, ?_, ?_, ?_, ?_⟩ <;> (first | omega | rfl | assumption | decide | exact Or.inl rfl | exact Or.inr rfl | (simp only; omega)))⟩⟩ rfl rfl hl.1 rfl (lv_room (Nat.le_of_ble_eq_true rfl)) dX4_number_136 ⟨Nat.zero_le _, Nat.zero_le _⟩) hh_145.1 (fun q _ h => h) (fun q h => h) (fun r_155 u_154 t_154 H_154 locs_154 ht_154 hvm_154 hr_155 hb_154 hz_154 hk_154 hS_154 => ?_)
                  rw [ht_154] at hb_154
                  obtain ⟨hb_1541, hb_1542, hb_1543, hb_1544, hb_1545⟩ := hb_154
                  have hh_154 : jSt (dC, dI) B base G0 G0 EX4_numberP s.heap 0 0 [(r0, 6, 11, .int z_143), (r0, 6, 9, .ref rb), (r0, 6, 10, .int pe), (r0, 6, 7, .int pv), (r0, 6, 8, .int pu), (r0, 6, 0, .ref wk), (r0, 6, 1, .ref wi), (r0, 6, 2, .ref wz), (r0, 6, 4, .ref jkf), (r0, 6, 5, .ref jks)] [(wk, 140, 1502, ca 1, fk), (wi, 141, 1502, ca 1, fi), (wz, 142, 1502, ca 1, fz), (jkf, 144, 1502, ca 1, fa), (jks, 145, 1502, ca 1, fs)] [] H_154 locs_154 := ((hh_145.call hb_1541 hb_1542 hb_1543 hb_1544 hS_154 rfl (L1 := [(r0, 6, 11, .int z_143), (r0, 6, 9, .ref rb), (r0, 6, 10, .int pe), (r0, 6, 7, .int pv), (r0, 6, 8, .int pu), (r0, 6, 0, .ref wk), (r0, 6, 1, .ref wi), (r0, 6, 2, .ref wz), (r0, 6, 4, .ref jkf), (r0, 6, 5, .ref jks)]) [0, 1, 2, 3, 4, 5, 6, 7, 8, 9] rfl rfl (M1 := [(wk, 140, 1502, ca 1, fk), (wi, 141, 1502, ca 1, fi), (wz, 142, 1502, ca 1, fz), (jkf, 144, 1502, ca 1, fa), (jks, 145, 1502, ca 1, fs)]) [0, 1, 2, 3, 4] rfl rfl (I1 := []) [] rfl rfl).more hb_1545)
                  clear hh_145 ht_154 hvm_154 hz_154 hk_154 hS_154 hb_1541 hb_1542 hb_1543 hb_1544 hb_1545
                  obtain ⟨hr_155_0, hr_155_1, hr_155_2⟩ := hr_155
                  refine lv_bipush (v := 45) hx hb dX4_number_139 (by decide) ?_
                  refine lv_icmp_ne (tgt := 154) hx hb dX4_number_141 (by decide) (fun c_156 => ?_) (fun c_156 => ?_)
                  · skip
                    have c_156' : r_155.toInt ≠ 45 := jb_ne (rfl) ((by decide)) c_156
                    try clear hr_155_2
                    exact C154 z_143 _ _ hh_154 (by first | omega | (refine ⟨?_, ?_, ?_, ?_⟩ <;> (first | omega | rfl | assumption | decide | exact Or.inl rfl | exact Or.inr rfl | (simp only; omega)))) _ (lv_sub hl [1, 2, 3, 4, 0] rfl)
                  · skip
                    have c_156' : r_155.toInt = 45 := jb_ne_n (rfl) ((by decide)) c_156
                    first | (have hr_155_2q := hr_155_2.resolve_left (by omega); clear hr_155_2) | (have hr_155_2q := hr_155_2.resolve_right (by omega); clear hr_155_2) | try clear hr_155_2
                    refine lv_aload_n hx hb dX4_number_144 rfl (lv_at hl 1 rfl) ?_
                    refine lv_dup hx hb dX4_number_145 rfl ?_
                    refine j7_read hx hb hown hK (C := RX4) (T := TX4) (N := 12) rfl hly_6_11 hlk_47 (hh_154.at 0 rfl) dX4_number_146 ?_
                    refine lv_iconst (v := 1) hx hb dX4_number_149 (by decide) ?_
                    refine lv_iadd hx hb dX4_number_150 ?_
                    refine lv_topi (fun z_157 ez_157 => ?_)
                    have hz_157 : z_157.toInt = z_143.toInt + 1 := by rw [ez_157]; exact jb_iadd2 (rfl) ((by decide)) (by omega)
                    refine j7_put hx hb hown hK hh_154 hB hAp hB6 (C := RX4) (T := TX4) (N := 12) rfl (by decide) hg_r0 (i := 11) (by decide) hly_6_11 rfl hlk_47 rfl (ty := .int) (v := .int z_157) (by decide +kernel) rfl rfl (⟨_, rfl, by omega, by omega⟩) rfl (L1 := [(r0, 6, 9, .ref rb), (r0, 6, 10, .int pe), (r0, 6, 7, .int pv), (r0, 6, 8, .int pu), (r0, 6, 0, .ref wk), (r0, 6, 1, .ref wi), (r0, 6, 2, .ref wz), (r0, 6, 4, .ref jkf), (r0, 6, 5, .ref jks)]) [1, 2, 3, 4, 5, 6, 7, 8, 9] rfl rfl rfl dX4_number_151 (fun H_158 locs_158 hh_158 => ?_)
                    clear hh_154
                    exact C154 z_157 _ _ hh_158 (by first | omega | (refine ⟨?_, ?_, ?_, ?_⟩ <;> (first | omega | rfl | assumption | decide | exact Or.inl rfl | exact Or.inr rfl | (simp only; omega)))) _ (lv_sub hl [1, 2, 3, 4, 0] rfl)
          refine lv_icmp_ne (tgt := 95) hx hb dX4_number_70 (by decide) (fun c_159 => ?_) (fun c_159 => ?_)
          · skip
            have c_159' : r_92.toInt ≠ 46 := jb_ne (rfl) ((by decide)) c_159
            try clear hr_92_2
            exact C95 1 qt_87 _ _ hh_91 (Or.inr rfl) (by first | omega | (refine ⟨?_, ?_, ?_, ?_⟩ <;> (first | omega | rfl | assumption | decide | exact Or.inl rfl | exact Or.inr rfl | (simp only; omega)))) _ (lv_sub hl [1, 2, 3, 4, 0] rfl)
          · skip
            have c_159' : r_92.toInt = 46 := jb_ne_n (rfl) ((by decide)) c_159
            first | (have hr_92_2q := hr_92_2.resolve_left (by omega); clear hr_92_2) | (have hr_92_2q := hr_92_2.resolve_right (by omega); clear hr_92_2) | try clear hr_92_2
            refine lv_iconst (v := 0) hx hb dX4_number_73 (by decide) ?_
            refine lv_istore (lv' := [(4, .int 0), (0, .ref r0), (1, .int 1), (2, .int wt_86), (3, .int r_88)]) hx hb dX4_number_74 hl (by decide) rfl (fun ls hl => ?_)
            refine lv_aload_n hx hb dX4_number_76 rfl (lv_at hl 1 rfl) ?_
            refine lv_dup hx hb dX4_number_77 rfl ?_
            refine j7_read hx hb hown hK (C := RX4) (T := TX4) (N := 12) rfl hly_6_11 hlk_47 (hh_91.at 0 rfl) dX4_number_78 ?_
            refine lv_iconst (v := 1) hx hb dX4_number_81 (by decide) ?_
            refine lv_iadd hx hb dX4_number_82 ?_
            refine lv_topi (fun z_160 ez_160 => ?_)
            have hz_160 : z_160.toInt = qt_87.toInt + 1 := by rw [ez_160]; exact jb_iadd2 (rfl) ((by decide)) (by omega)
            refine j7_put hx hb hown hK hh_91 hB hAp hB6 (C := RX4) (T := TX4) (N := 12) rfl (by decide) hg_r0 (i := 11) (by decide) hly_6_11 rfl hlk_47 rfl (ty := .int) (v := .int z_160) (by decide +kernel) rfl rfl (⟨_, rfl, by omega, by omega⟩) rfl (L1 := [(r0, 6, 9, .ref rb), (r0, 6, 10, .int pe), (r0, 6, 7, .int pv), (r0, 6, 8, .int pu), (r0, 6, 0, .ref wk), (r0, 6, 1, .ref wi), (r0, 6, 2, .ref wz), (r0, 6, 4, .ref jkf), (r0, 6, 5, .ref jks)]) [1, 2, 3, 4, 5, 6, 7, 8, 9] rfl rfl rfl dX4_number_83 (fun H_161 locs_161 hh_161 => ?_)
            clear hh_91
            refine lv_aload_n hx hb dX4_number_86 rfl (lv_at hl 1 rfl) ?_
            refine va_calli (A0 := jA base) (H0 := s.heap) (va_runV (As := []) (rest := []) ⟨hx, hb, hml, hown, hts⟩ (uX4_digits l dC dI ca base B hB hAp hB6 hB100 G0 H_161 r0 rb n_rb pe z_160) (cwV 0 hts (jgV (jWr_23 _ (List.mem_of_getElem? (i := 1) rfl)) (jWr_23 _ (List.mem_of_getElem? (i := 2) rfl)) (jWr_23 _ (List.mem_of_getElem? (i := 3) rfl)) (jWr_1 _ (List.mem_of_getElem? (i := 22) rfl)) (jWr_23 _ (List.mem_of_getElem? (i := 4) rfl))) rfl rfl rfl (by decide +kernel) ⟨by rw [← hR]; exact Nat.le_of_ble_eq_true rfl, by rw [← hR]; exact Nat.le_of_ble_eq_true rfl⟩) ⟨fun a U g mk q => by obtain ⟨q0, q1, q2, qK, q10, q11, q12, q13⟩ := q; exact ⟨q0, q1, q2, jG.calling g mk a qK, q10, q11, q12, q13⟩, hh_161.recv (C := RX4) (T := TX4) (N := 12) hB6 rfl (by decide) hg_r0 hK, fun U hU hW => ⟨rfl, hU, hh_161.2.1, hG.step hW hU hh_161.1, hg_r0, hg_rb, (hh_161.2.2.1.sub (L1 := [(r0, 6, 9, .ref rb), (r0, 6, 10, .int pe), (r0, 6, 11, .int z_160)]) [1, 2, 0] rfl), by first | omega | (refine ⟨?_, ?_, ?_, ?_, ?_, ?_⟩ <;> (first | omega | rfl | assumption | decide | exact Or.inl rfl | exact Or.inr rfl | (simp only; omega)))⟩⟩ rfl rfl hl.1 rfl (lv_room (Nat.le_of_ble_eq_true rfl)) dX4_number_87 ⟨Nat.zero_le _, Nat.zero_le _⟩) hh_161.1 (fun q _ h => h) (fun q h => h) (fun r_163 u_162 t_162 H_162 locs_162 ht_162 hvm_162 hr_163 hb_162 hz_162 hk_162 hS_162 => ?_)
            obtain ⟨qt_162, rfl⟩ : ∃ z, z = u_162 := ⟨_, rfl⟩
            rw [ht_162] at hb_162
            obtain ⟨hb_1621, hb_1622, hb_1623, hb_1624, hb_1625⟩ := hb_162
            have hh_162 : jSt (dC, dI) B base G0 G0 EX4_numberP s.heap 0 0 [(r0, 6, 11, .int qt_162), (r0, 6, 9, .ref rb), (r0, 6, 10, .int pe), (r0, 6, 7, .int pv), (r0, 6, 8, .int pu), (r0, 6, 0, .ref wk), (r0, 6, 1, .ref wi), (r0, 6, 2, .ref wz), (r0, 6, 4, .ref jkf), (r0, 6, 5, .ref jks)] [(wk, 140, 1502, ca 1, fk), (wi, 141, 1502, ca 1, fi), (wz, 142, 1502, ca 1, fz), (jkf, 144, 1502, ca 1, fa), (jks, 145, 1502, ca 1, fs)] [] H_162 locs_162 := ((hh_161.call hb_1621 hb_1622 hb_1623 hb_1624 hS_162 rfl (L1 := [(r0, 6, 9, .ref rb), (r0, 6, 10, .int pe), (r0, 6, 7, .int pv), (r0, 6, 8, .int pu), (r0, 6, 0, .ref wk), (r0, 6, 1, .ref wi), (r0, 6, 2, .ref wz), (r0, 6, 4, .ref jkf), (r0, 6, 5, .ref jks)]) [1, 2, 3, 4, 5, 6, 7, 8, 9] rfl rfl (M1 := [(wk, 140, 1502, ca 1, fk), (wi, 141, 1502, ca 1, fi), (wz, 142, 1502, ca 1, fz), (jkf, 144, 1502, ca 1, fa), (jks, 145, 1502, ca 1, fs)]) [0, 1, 2, 3, 4] rfl rfl (I1 := []) [] rfl rfl).more hb_1625)
            clear hh_161 ht_162 hvm_162 hz_162 hk_162 hS_162 hb_1621 hb_1622 hb_1623 hb_1624 hb_1625
            obtain ⟨hr_163_0, hr_163_1, hr_163_2⟩ := hr_163
            refine lv_if_ne (tgt := 95) hx hb dX4_number_90 (by decide) (fun c_164 => ?_) (fun c_164 => ?_)
            · skip
              have c_164' : r_163.toInt ≠ 0 := jb_ne (rfl) ((by decide)) c_164
              exact C95 0 qt_162 _ _ hh_162 (Or.inl rfl) (by first | omega | (refine ⟨?_, ?_, ?_, ?_⟩ <;> (first | omega | rfl | assumption | decide | exact Or.inl rfl | exact Or.inr rfl | (simp only; omega)))) _ (lv_sub hl [1, 2, 3, 4, 0] rfl)
            · skip
              have c_164' : r_163.toInt = 0 := jb_ne_n (rfl) ((by decide)) c_164
              refine lv_iconst (v := (-1)) hx hb dX4_number_93 (by decide) ?_
              rw [hQ]
              exact W.iret (v := (-1)) hx hb hr (fun t ht hW => ⟨⟨(-1), (qt_162, pv, pu, fk, fi, fz, fa, fs), rfl, by (try dsimp only); refine ⟨by omega, by omega, by omega, by omega, by omega, by omega, ?_⟩; exact jVr.no (by omega) (by omega) (by omega) (by omega), ⟨hh_162.rt (M1 := [(r0, 6, 11, .int qt_162), (r0, 6, 7, .int pv), (r0, 6, 8, .int pu)]) [0, 3, 4] rfl ht, by rw [ht]; exact hh_162.2.2.2.2.2.2.2.1.sub [0, 1, 2, 3, 4] rfl⟩⟩, by rw [ht]; try exact hh_162.1.1, fun q h9 hq => by rw [ht]; try exact hh_162.1.2.1 q h9 hq⟩) hh_162.1.2.2 dX4_number_94
        refine lv_icmp_le (tgt := 61) hx hb dX4_number_45 (by decide) (fun c_165 => ?_) (fun c_165 => ?_)
        · skip
          have c_165' : r_88.toInt ≤ 1 := jb_le (rfl) ((by decide)) c_165
          exact C61  _ _ hh_87 (trivial) _ (lv_sub hl [2, 3, 1, 0] rfl)
        · skip
          have c_165' : r_88.toInt > 1 := jb_le_n (rfl) ((by decide)) c_165
          refine lv_aload_n hx hb dX4_number_48 rfl (lv_at hl 2 rfl) ?_
          refine j7_read hx hb hown hK (C := RX4) (T := TX4) (N := 12) rfl hly_6_9 hlk_33 (hh_87.at 1 rfl) dX4_number_49 ?_
          refine lv_iload_n hx hb dX4_number_52 rfl (lv_at hl 1 rfl) ?_
          refine j7_bald hx hb hK hh_87 hB100 0 rfl (by decide) hg_rb (x := wt_86.toInt) (rfl) (by omega) dX4_number_53 (fun z_166 (hz_166 : True) => ?_)
          refine lv_bipush (v := 48) hx hb dX4_number_54 (by decide) ?_
          refine lv_icmp_ne (tgt := 61) hx hb dX4_number_56 (by decide) (fun c_167 => ?_) (fun c_167 => ?_)
          · skip
            have c_167' : z_166.toInt ≠ 48 := jb_ne (rfl) ((by decide)) c_167
            exact C61  _ _ hh_87 (trivial) _ (lv_sub hl [2, 3, 1, 0] rfl)
          · skip
            have c_167' : z_166.toInt = 48 := jb_ne_n (rfl) ((by decide)) c_167
            refine lv_iconst (v := (-1)) hx hb dX4_number_59 (by decide) ?_
            rw [hQ]
            exact W.iret (v := (-1)) hx hb hr (fun t ht hW => ⟨⟨(-1), (qt_87, pv, pu, fk, fi, fz, fa, fs), rfl, by (try dsimp only); refine ⟨by omega, by omega, by omega, by omega, by omega, by omega, ?_⟩; exact jVr.no (by omega) (by omega) (by omega) (by omega), ⟨hh_87.rt (M1 := [(r0, 6, 11, .int qt_87), (r0, 6, 7, .int pv), (r0, 6, 8, .int pu)]) [0, 3, 4] rfl ht, by rw [ht]; exact hh_87.2.2.2.2.2.2.2.1.sub [0, 1, 2, 3, 4] rfl⟩⟩, by rw [ht]; try exact hh_87.1.1, fun q h9 hq => by rw [ht]; try exact hh_87.1.2.1 q h9 hq⟩) hh_87.1.2.2 dX4_number_60
    refine lv_if_eq (tgt := 29) hx hb dX4_number_16 (by decide) (fun c_168 => ?_) (fun c_168 => ?_)
    · skip
      exact absurd c_168 (by decide)
    · skip
      refine lv_aload_n hx hb dX4_number_19 rfl (lv_at hl 1 rfl) ?_
      refine lv_dup hx hb dX4_number_20 rfl ?_
      refine j7_read hx hb hown hK (C := RX4) (T := TX4) (N := 12) rfl hly_6_11 hlk_47 (hh_1.at 2 rfl) dX4_number_21 ?_
      refine lv_iconst (v := 1) hx hb dX4_number_24 (by decide) ?_
      refine lv_iadd hx hb dX4_number_25 ?_
      refine lv_topi (fun z_169 ez_169 => ?_)
      have hz_169 : z_169.toInt = pt.toInt + 1 := by rw [ez_169]; exact jb_iadd2 (rfl) ((by decide)) (by omega)
      refine j7_put hx hb hown hK hh_1 hB hAp hB6 (C := RX4) (T := TX4) (N := 12) rfl (by decide) hg_r0 (i := 11) (by decide) hly_6_11 rfl hlk_47 rfl (ty := .int) (v := .int z_169) (by decide +kernel) rfl rfl (⟨_, rfl, by omega, by omega⟩) rfl (L1 := [(r0, 6, 9, .ref rb), (r0, 6, 10, .int pe), (r0, 6, 7, .int pv), (r0, 6, 8, .int pu), (r0, 6, 0, .ref wk), (r0, 6, 1, .ref wi), (r0, 6, 2, .ref wz), (r0, 6, 4, .ref jkf), (r0, 6, 5, .ref jks)]) [0, 1, 3, 4, 5, 6, 7, 8, 9] rfl rfl rfl dX4_number_26 (fun H_170 locs_170 hh_170 => ?_)
      clear hh_1
      exact C29 z_169 _ _ hh_170 (by first | omega | (refine ⟨?_, ?_⟩ <;> (first | omega | rfl | assumption | decide | exact Or.inl rfl | exact Or.inr rfl | (simp only; omega)))) _ (lv_sub hl [1, 0] rfl)
set_option maxHeartbeats 4000000 in
set_option maxRecDepth 20000 in
theorem uX4_isColonP (l : Launch) (dC : Nat → ClassId) (dI : Nat → Nat → Nat) (ca : Nat → ClassId) (base : Nat) (B : jF) (hB : jBok B) (hAp : jAp (dC, dI)) (hB6 : ∀ n G a H, B 6 n G a H ↔ jOb (dC, dI) 6 12 (F6 n G) a H) (hB100 : ∀ n G a H, B 100 n G a H ↔ jAr (dC, dI) (ca 0) (fun j z => True) n a H) (G0 : jT) (H0 : Heap) (r0 : Nat) (rb : Nat) (n_rb : Nat) (pe : Int32) (pt : Int32) : Met l yX4_isColon (jw yX4_isColon cX4_isColon 2 (some .boolean)) ({ frames := 2, cells := 0, slots := 0, locals := 40 }) (va_Pc [.ref r0] (fun U => U.heap = H0 ∧ jX B base G0 [] H0 ∧ jG dC dI ca base U ∧ G0 r0 = some (6, 0) ∧ G0 rb = some (100, n_rb) ∧ jP (dC, dI) G0 H0 [(r0, 6, 9, .ref rb), (r0, 6, 10, .int pe), (r0, 6, 11, .int pt)] ∧ 0 ≤ pe.toInt ∧ pe.toInt ≤ n_rb ∧ n_rb ≤ 3000 ∧ 0 ≤ pt.toInt ∧ pt.toInt ≤ 19000 ∧ pt.toInt ≤ pe.toInt)) (va_Qi (S := Int32) (fun r u => (r = 0 ∨ r = 1) ∧ (pt.toInt + 1 ≤ u.toInt ∧ u.toInt ≤ pe.toInt + 1 - r.toInt)) (fun u t => jRt (dC, dI) B base G0 EX4_isColonP H0 [(r0, 6, 11, .int u)] t.heap) (jA base)) 0 0 (jA base) := by
  refine Met.ofW (cc := cX4_isColon) (maxL := 2) (ret := (some .boolean)) (by decide) rfl ?_
  intro p e s m args below meth c s₁ Bd hml hv
  obtain ⟨rfl, hH0, hX, hG, hg_r0, hg_rb, hP0, hp0, hp1, hp2, hp3, hp4, hp5⟩ := hv
  have hK := hG.1
  have hx := Bd.exec
  have hb := Bd.bytes
  have hr := Bd.returns
  have hts := atoms_spec (ws := (jw yX4_isColon cX4_isColon 2 (some .boolean))) Bd.pre
  have htw : ∀ w ∈ jWl, w.before _ s = true := fun w h => hts w (List.mem_cons_of_mem _ h)
  have hown : s.vm.findClass RX4 = some m.cls := findClass_of_methodNamed Bd.named
  have hlocks := Bd.notSynchronized
  obtain ⟨Q, hQ⟩ : ∃ Q, Q = MQ below (va_Qi (S := Int32) (fun r u => (r = 0 ∨ r = 1) ∧ (pt.toInt + 1 ≤ u.toInt ∧ u.toInt ≤ pe.toInt + 1 - r.toInt)) (fun u t => jRt (dC, dI) B base G0 EX4_isColonP H0 [(r0, 6, 11, .int u)] t.heap) (jA base)) ([.ref r0] : List Value).toArray s 0 0 (jA base) := ⟨_, rfl⟩
  rw [← hQ]
  have hl := lv_entry ([.ref r0]) (n := 2) (Nat.le_of_ble_eq_true rfl)
  rw [lg_entry_eq]
  generalize (lg_sl ([.ref r0]) ++ List.replicate (2 - (lg_sl ([.ref r0])).length) Slot.unset).toArray = ls at hl ⊢
  have hl : lv_has ls 2 [(0, .ref r0)] := hl
  generalize hR : (headSpec (jw yX4_isColon cX4_isColon 2 (some .boolean)) ({ frames := 2, cells := 0, slots := 0, locals := 40 })).room = R
  subst hH0
  have hh : jSt (dC, dI) B base G0 G0 EX4_isColonP s.heap 0 0 [(r0, 6, 9, .ref rb), (r0, 6, 10, .int pe), (r0, 6, 11, .int pt)] [] [] s.heap [] := jSt.start hX hP0 jMc.nil jIs.nil
  clear hX hP0
  have hk0 : (0 : Int32).toInt = 0 := by decide
  have hk1 : (1 : Int32).toInt = 1 := by decide
  have hk58 : (58 : Int32).toInt = 58 := by decide
  have hly_6_11 := htw (u_lay RX4 TX4 11) (jWc_wsX40 _ (u_in_lay (by decide)))
  have hlk_47 := (htw (.fieldLink RX4 47 "ProofServer$Json" "at" "I") (jWr_19 _ (List.mem_of_getElem? (i := 12) rfl)))
  refine lv_aload_n hx hb dX4_isColon_0 rfl (lv_at hl 0 rfl) ?_
  refine va_callv (A0 := jA base) (H0 := s.heap) (va_runV (As := []) (rest := []) ⟨hx, hb, hml, hown, hts⟩ (uX4_skipBlanks l dC dI ca base B hB hAp hB6 hB100 G0 s.heap r0 rb n_rb pe pt pe.toInt) (cwV 0 hts (jgV (jWr_19 _ (List.mem_of_getElem? (i := 15) rfl)) (jWr_19 _ (List.mem_of_getElem? (i := 16) rfl)) (jWr_19 _ (List.mem_of_getElem? (i := 17) rfl)) (jWr_1 _ (List.mem_of_getElem? (i := 22) rfl)) (jWr_19 _ (List.mem_of_getElem? (i := 18) rfl))) rfl rfl rfl (by decide +kernel) ⟨by rw [← hR]; exact Nat.le_of_ble_eq_true rfl, by rw [← hR]; exact Nat.le_of_ble_eq_true rfl⟩) ⟨fun a U g mk q => by obtain ⟨q0, q1, q2, qK, q10, q11, q12, q13⟩ := q; exact ⟨q0, q1, q2, jG.calling g mk a qK, q10, q11, q12, q13⟩, hh.recv (C := RX4) (T := TX4) (N := 12) hB6 rfl (by decide) hg_r0 hK, fun U hU hW => ⟨rfl, hU, hh.2.1, hG.step hW hU hh.1, hg_r0, hg_rb, (hh.2.2.1.sub (L1 := [(r0, 6, 9, .ref rb), (r0, 6, 10, .int pe), (r0, 6, 11, .int pt)]) [0, 1, 2] rfl), by first | omega | (refine ⟨?_, ?_, ?_, ?_, ?_, ?_, ?_, ?_⟩ <;> (first | omega | rfl | assumption | decide | exact Or.inl rfl | exact Or.inr rfl | (simp only; omega)))⟩⟩ rfl rfl hl.1 rfl (lv_room (Nat.le_of_ble_eq_true rfl)) dX4_isColon_1 ⟨Nat.zero_le _, Nat.zero_le _⟩) hh.1 (fun q _ h => h) (fun q h => h) (fun u_1 t_1 H_1 locs_1 ht_1 hvm_1 hr_2 hb_1 hz_1 hk_1 hS_1 => ?_)
  obtain ⟨qt_1, rfl⟩ : ∃ z, z = u_1 := ⟨_, rfl⟩
  rw [ht_1] at hb_1
  obtain ⟨hb_11, hb_12, hb_13, hb_14, hb_15⟩ := hb_1
  have hh_1 : jSt (dC, dI) B base G0 G0 EX4_isColonP s.heap 0 0 [(r0, 6, 11, .int qt_1), (r0, 6, 9, .ref rb), (r0, 6, 10, .int pe)] [] [] H_1 locs_1 := ((hh.call hb_11 hb_12 hb_13 hb_14 hS_1 rfl (L1 := [(r0, 6, 9, .ref rb), (r0, 6, 10, .int pe)]) [0, 1] rfl rfl (M1 := []) [] rfl rfl (I1 := []) [] rfl rfl).more hb_15)
  clear hh ht_1 hvm_1 hz_1 hk_1 hS_1 hb_11 hb_12 hb_13 hb_14 hb_15
  obtain ⟨hr_2_0, hr_2_1⟩ := hr_2
  refine lv_aload_n hx hb dX4_isColon_4 rfl (lv_at hl 0 rfl) ?_
  refine va_calli (A0 := jA base) (H0 := s.heap) (va_runV (As := []) (rest := []) ⟨hx, hb, hml, hown, hts⟩ (uX4_peek l dC dI ca base B hB hAp hB6 hB100 G0 H_1 r0 rb n_rb pe qt_1) (cwV 0 hts (jgV (jWr_19 _ (List.mem_of_getElem? (i := 19) rfl)) (jWr_19 _ (List.mem_of_getElem? (i := 20) rfl)) (jWr_19 _ (List.mem_of_getElem? (i := 21) rfl)) (jWr_1 _ (List.mem_of_getElem? (i := 22) rfl)) (jWr_19 _ (List.mem_of_getElem? (i := 22) rfl))) rfl rfl rfl (by decide +kernel) ⟨by rw [← hR]; exact Nat.le_of_ble_eq_true rfl, by rw [← hR]; exact Nat.le_of_ble_eq_true rfl⟩) ⟨fun a U g mk q => by obtain ⟨q0, q1, q2, qK, q10, q11, q12, q13⟩ := q; exact ⟨q0, q1, q2, jG.calling g mk a qK, q10, q11, q12, q13⟩, hh_1.recv (C := RX4) (T := TX4) (N := 12) hB6 rfl (by decide) hg_r0 hK, fun U hU hW => ⟨rfl, hU, hh_1.2.1, hG.step hW hU hh_1.1, hg_r0, hg_rb, (hh_1.2.2.1.sub (L1 := [(r0, 6, 9, .ref rb), (r0, 6, 10, .int pe), (r0, 6, 11, .int qt_1)]) [1, 2, 0] rfl), by first | omega | (refine ⟨?_, ?_, ?_, ?_, ?_⟩ <;> (first | omega | rfl | assumption | decide | exact Or.inl rfl | exact Or.inr rfl | (simp only; omega)))⟩⟩ rfl rfl hl.1 rfl (lv_room (Nat.le_of_ble_eq_true rfl)) dX4_isColon_5 ⟨Nat.zero_le _, Nat.zero_le _⟩) hh_1.1 (fun q _ h => h) (fun q h => h) (fun r_4 u_3 t_3 H_3 locs_3 ht_3 hvm_3 hr_4 hb_3 hz_3 hk_3 hS_3 => ?_)
  rw [ht_3] at hb_3
  obtain ⟨hb_31, hb_32, hb_33, hb_34, hb_35⟩ := hb_3
  have hh_3 : jSt (dC, dI) B base G0 G0 EX4_isColonP s.heap 0 0 [(r0, 6, 11, .int qt_1), (r0, 6, 9, .ref rb), (r0, 6, 10, .int pe)] [] [] H_3 locs_3 := ((hh_1.call hb_31 hb_32 hb_33 hb_34 hS_3 rfl (L1 := [(r0, 6, 11, .int qt_1), (r0, 6, 9, .ref rb), (r0, 6, 10, .int pe)]) [0, 1, 2] rfl rfl (M1 := []) [] rfl rfl (I1 := []) [] rfl rfl).more hb_35)
  clear hh_1 ht_3 hvm_3 hz_3 hk_3 hS_3 hb_31 hb_32 hb_33 hb_34 hb_35
  obtain ⟨hr_4_0, hr_4_1, hr_4_2⟩ := hr_4
  refine lv_bipush (v := 58) hx hb dX4_isColon_8 (by decide) ?_
  refine lv_icmp_ne (tgt := 17) hx hb dX4_isColon_10 (by decide) (fun c_5 => ?_) (fun c_5 => ?_)
  · skip
    have c_5' : r_4.toInt ≠ 58 := jb_ne (rfl) ((by decide)) c_5
    try clear hr_4_2
    refine lv_iconst (v := 0) hx hb dX4_isColon_17 (by decide) ?_
    refine lv_istore_n (lv' := [(1, .int 0), (0, .ref r0)]) hx hb dX4_isColon_18 rfl hl (by decide) rfl (fun ls hl => ?_)
    refine lv_aload_n hx hb dX4_isColon_19 rfl (lv_at hl 1 rfl) ?_
    refine lv_dup hx hb dX4_isColon_20 rfl ?_
    refine j7_read hx hb hown hK (C := RX4) (T := TX4) (N := 12) rfl hly_6_11 hlk_47 (hh_3.at 0 rfl) dX4_isColon_21 ?_
    refine lv_iconst (v := 1) hx hb dX4_isColon_24 (by decide) ?_
    refine lv_iadd hx hb dX4_isColon_25 ?_
    refine lv_topi (fun z_6 ez_6 => ?_)
    have hz_6 : z_6.toInt = qt_1.toInt + 1 := by rw [ez_6]; exact jb_iadd2 (rfl) ((by decide)) (by omega)
    refine j7_put hx hb hown hK hh_3 hB hAp hB6 (C := RX4) (T := TX4) (N := 12) rfl (by decide) hg_r0 (i := 11) (by decide) hly_6_11 rfl hlk_47 rfl (ty := .int) (v := .int z_6) (by decide +kernel) rfl rfl (⟨_, rfl, by omega, by omega⟩) rfl (L1 := [(r0, 6, 9, .ref rb), (r0, 6, 10, .int pe)]) [1, 2] rfl rfl rfl dX4_isColon_26 (fun H_7 locs_7 hh_7 => ?_)
    clear hh_3
    refine lv_aload_n hx hb dX4_isColon_29 rfl (lv_at hl 1 rfl) ?_
    refine va_callv (A0 := jA base) (H0 := s.heap) (va_runV (As := []) (rest := []) ⟨hx, hb, hml, hown, hts⟩ (uX4_skipBlanks l dC dI ca base B hB hAp hB6 hB100 G0 H_7 r0 rb n_rb pe z_6 (pe.toInt + 1 - 0)) (cwV 0 hts (jgV (jWr_19 _ (List.mem_of_getElem? (i := 15) rfl)) (jWr_19 _ (List.mem_of_getElem? (i := 16) rfl)) (jWr_19 _ (List.mem_of_getElem? (i := 17) rfl)) (jWr_1 _ (List.mem_of_getElem? (i := 22) rfl)) (jWr_19 _ (List.mem_of_getElem? (i := 18) rfl))) rfl rfl rfl (by decide +kernel) ⟨by rw [← hR]; exact Nat.le_of_ble_eq_true rfl, by rw [← hR]; exact Nat.le_of_ble_eq_true rfl⟩) ⟨fun a U g mk q => by obtain ⟨q0, q1, q2, qK, q10, q11, q12, q13⟩ := q; exact ⟨q0, q1, q2, jG.calling g mk a qK, q10, q11, q12, q13⟩, hh_7.recv (C := RX4) (T := TX4) (N := 12) hB6 rfl (by decide) hg_r0 hK, fun U hU hW => ⟨rfl, hU, hh_7.2.1, hG.step hW hU hh_7.1, hg_r0, hg_rb, (hh_7.2.2.1.sub (L1 := [(r0, 6, 9, .ref rb), (r0, 6, 10, .int pe), (r0, 6, 11, .int z_6)]) [1, 2, 0] rfl), by first | omega | (refine ⟨?_, ?_, ?_, ?_, ?_, ?_, ?_, ?_⟩ <;> (first | omega | rfl | assumption | decide | exact Or.inl rfl | exact Or.inr rfl | (simp only; omega)))⟩⟩ rfl rfl hl.1 rfl (lv_room (Nat.le_of_ble_eq_true rfl)) dX4_isColon_30 ⟨Nat.zero_le _, Nat.zero_le _⟩) hh_7.1 (fun q _ h => h) (fun q h => h) (fun u_8 t_8 H_8 locs_8 ht_8 hvm_8 hr_9 hb_8 hz_8 hk_8 hS_8 => ?_)
    obtain ⟨qt_8, rfl⟩ : ∃ z, z = u_8 := ⟨_, rfl⟩
    rw [ht_8] at hb_8
    obtain ⟨hb_81, hb_82, hb_83, hb_84, hb_85⟩ := hb_8
    have hh_8 : jSt (dC, dI) B base G0 G0 EX4_isColonP s.heap 0 0 [(r0, 6, 11, .int qt_8), (r0, 6, 9, .ref rb), (r0, 6, 10, .int pe)] [] [] H_8 locs_8 := ((hh_7.call hb_81 hb_82 hb_83 hb_84 hS_8 rfl (L1 := [(r0, 6, 9, .ref rb), (r0, 6, 10, .int pe)]) [1, 2] rfl rfl (M1 := []) [] rfl rfl (I1 := []) [] rfl rfl).more hb_85)
    clear hh_7 ht_8 hvm_8 hz_8 hk_8 hS_8 hb_81 hb_82 hb_83 hb_84 hb_85
    obtain ⟨hr_9_0, hr_9_1⟩ := hr_9
    refine lv_iload_n hx hb dX4_isColon_33 rfl (lv_at hl 0 rfl) ?_
    rw [hQ]
    exact W.zret (v := 0) hx hb hr (jb_nz (Or.inl rfl)) (fun t ht hW => ⟨⟨0, qt_8, rfl, ⟨(Or.inl rfl), by first | omega | (refine ⟨?_, ?_⟩ <;> (first | omega | rfl | assumption | decide | exact Or.inl rfl | exact Or.inr rfl | (simp only; omega)))⟩, hh_8.rt (M1 := [(r0, 6, 11, .int qt_8)]) [0] rfl ht⟩, by rw [ht]; try exact hh_8.1.1, fun q h9 hq => by rw [ht]; try exact hh_8.1.2.1 q h9 hq⟩) hh_8.1.2.2 dX4_isColon_34
  · skip
    have c_5' : r_4.toInt = 58 := jb_ne_n (rfl) ((by decide)) c_5
    first | (have hr_4_2q := hr_4_2.resolve_left (by omega); clear hr_4_2) | (have hr_4_2q := hr_4_2.resolve_right (by omega); clear hr_4_2) | try clear hr_4_2
    refine lv_iconst (v := 1) hx hb dX4_isColon_13 (by decide) ?_
    refine lv_goto (tgt := 18) hx hb dX4_isColon_14 (by decide) ?_
    refine lv_istore_n (lv' := [(1, .int 1), (0, .ref r0)]) hx hb dX4_isColon_18 rfl hl (by decide) rfl (fun ls hl => ?_)
    refine lv_aload_n hx hb dX4_isColon_19 rfl (lv_at hl 1 rfl) ?_
    refine lv_dup hx hb dX4_isColon_20 rfl ?_
    refine j7_read hx hb hown hK (C := RX4) (T := TX4) (N := 12) rfl hly_6_11 hlk_47 (hh_3.at 0 rfl) dX4_isColon_21 ?_
    refine lv_iconst (v := 1) hx hb dX4_isColon_24 (by decide) ?_
    refine lv_iadd hx hb dX4_isColon_25 ?_
    refine lv_topi (fun z_10 ez_10 => ?_)
    have hz_10 : z_10.toInt = qt_1.toInt + 1 := by rw [ez_10]; exact jb_iadd2 (rfl) ((by decide)) (by omega)
    refine j7_put hx hb hown hK hh_3 hB hAp hB6 (C := RX4) (T := TX4) (N := 12) rfl (by decide) hg_r0 (i := 11) (by decide) hly_6_11 rfl hlk_47 rfl (ty := .int) (v := .int z_10) (by decide +kernel) rfl rfl (⟨_, rfl, by omega, by omega⟩) rfl (L1 := [(r0, 6, 9, .ref rb), (r0, 6, 10, .int pe)]) [1, 2] rfl rfl rfl dX4_isColon_26 (fun H_11 locs_11 hh_11 => ?_)
    clear hh_3
    refine lv_aload_n hx hb dX4_isColon_29 rfl (lv_at hl 1 rfl) ?_
    refine va_callv (A0 := jA base) (H0 := s.heap) (va_runV (As := []) (rest := []) ⟨hx, hb, hml, hown, hts⟩ (uX4_skipBlanks l dC dI ca base B hB hAp hB6 hB100 G0 H_11 r0 rb n_rb pe z_10 (pe.toInt + 1 - 1)) (cwV 0 hts (jgV (jWr_19 _ (List.mem_of_getElem? (i := 15) rfl)) (jWr_19 _ (List.mem_of_getElem? (i := 16) rfl)) (jWr_19 _ (List.mem_of_getElem? (i := 17) rfl)) (jWr_1 _ (List.mem_of_getElem? (i := 22) rfl)) (jWr_19 _ (List.mem_of_getElem? (i := 18) rfl))) rfl rfl rfl (by decide +kernel) ⟨by rw [← hR]; exact Nat.le_of_ble_eq_true rfl, by rw [← hR]; exact Nat.le_of_ble_eq_true rfl⟩) ⟨fun a U g mk q => by obtain ⟨q0, q1, q2, qK, q10, q11, q12, q13⟩ := q; exact ⟨q0, q1, q2, jG.calling g mk a qK, q10, q11, q12, q13⟩, hh_11.recv (C := RX4) (T := TX4) (N := 12) hB6 rfl (by decide) hg_r0 hK, fun U hU hW => ⟨rfl, hU, hh_11.2.1, hG.step hW hU hh_11.1, hg_r0, hg_rb, (hh_11.2.2.1.sub (L1 := [(r0, 6, 9, .ref rb), (r0, 6, 10, .int pe), (r0, 6, 11, .int z_10)]) [1, 2, 0] rfl), by first | omega | (refine ⟨?_, ?_, ?_, ?_, ?_, ?_, ?_, ?_⟩ <;> (first | omega | rfl | assumption | decide | exact Or.inl rfl | exact Or.inr rfl | (simp only; omega)))⟩⟩ rfl rfl hl.1 rfl (lv_room (Nat.le_of_ble_eq_true rfl)) dX4_isColon_30 ⟨Nat.zero_le _, Nat.zero_le _⟩) hh_11.1 (fun q _ h => h) (fun q h => h) (fun u_12 t_12 H_12 locs_12 ht_12 hvm_12 hr_13 hb_12 hz_12 hk_12 hS_12 => ?_)
    obtain ⟨qt_12, rfl⟩ : ∃ z, z = u_12 := ⟨_, rfl⟩
    rw [ht_12] at hb_12
    obtain ⟨hb_121, hb_122, hb_123, hb_124, hb_125⟩ := hb_12
    have hh_12 : jSt (dC, dI) B base G0 G0 EX4_isColonP s.heap 0 0 [(r0, 6, 11, .int qt_12), (r0, 6, 9, .ref rb), (r0, 6, 10, .int pe)] [] [] H_12 locs_12 := ((hh_11.call hb_121 hb_122 hb_123 hb_124 hS_12 rfl (L1 := [(r0, 6, 9, .ref rb), (r0, 6, 10, .int pe)]) [1, 2] rfl rfl (M1 := []) [] rfl rfl (I1 := []) [] rfl rfl).more hb_125)
    clear hh_11 ht_12 hvm_12 hz_12 hk_12 hS_12 hb_121 hb_122 hb_123 hb_124 hb_125
    obtain ⟨hr_13_0, hr_13_1⟩ := hr_13
    refine lv_iload_n hx hb dX4_isColon_33 rfl (lv_at hl 0 rfl) ?_
    rw [hQ]
    exact W.zret (v := 1) hx hb hr (jb_nz (Or.inr rfl)) (fun t ht hW => ⟨⟨1, qt_12, rfl, ⟨(Or.inr rfl), by first | omega | (refine ⟨?_, ?_⟩ <;> (first | omega | rfl | assumption | decide | exact Or.inl rfl | exact Or.inr rfl | (simp only; omega)))⟩, hh_12.rt (M1 := [(r0, 6, 11, .int qt_12)]) [0] rfl ht⟩, by rw [ht]; try exact hh_12.1.1, fun q h9 hq => by rw [ht]; try exact hh_12.1.2.1 q h9 hq⟩) hh_12.1.2.2 dX4_isColon_34
end
