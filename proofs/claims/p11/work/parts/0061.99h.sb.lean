section
theorem dJ5_length_8abf5_0 : decode cJ5_length_8abf5 0 = .ok (.aload_n 0, 1) := by decide +kernel
theorem dJ5_length_8abf5_1 : decode cJ5_length_8abf5 1 = .ok (.getfield 79, 3) := by decide +kernel
theorem dJ5_length_8abf5_4 : decode cJ5_length_8abf5 4 = .ok (.ireturn, 1) := by decide +kernel
theorem dJ5_charAt_5068e_0 : decode cJ5_charAt_5068e 0 = .ok (.aload_n 0, 1) := by decide +kernel
theorem dJ5_charAt_5068e_1 : decode cJ5_charAt_5068e 1 = .ok (.getfield 22, 3) := by decide +kernel
theorem dJ5_charAt_5068e_4 : decode cJ5_charAt_5068e 4 = .ok (.istore_n 2, 1) := by decide +kernel
theorem dJ5_charAt_5068e_5 : decode cJ5_charAt_5068e 5 = .ok (.aload_n 0, 1) := by decide +kernel
theorem dJ5_charAt_5068e_6 : decode cJ5_charAt_5068e 6 = .ok (.getfield 15, 3) := by decide +kernel
theorem dJ5_charAt_5068e_9 : decode cJ5_charAt_5068e 9 = .ok (.astore_n 3, 1) := by decide +kernel
theorem dJ5_charAt_5068e_10 : decode cJ5_charAt_5068e 10 = .ok (.aload_n 0, 1) := by decide +kernel
theorem dJ5_charAt_5068e_11 : decode cJ5_charAt_5068e 11 = .ok (.getfield 79, 3) := by decide +kernel
theorem dJ5_charAt_5068e_14 : decode cJ5_charAt_5068e 14 = .ok (.aload_n 3, 1) := by decide +kernel
theorem dJ5_charAt_5068e_15 : decode cJ5_charAt_5068e 15 = .ok (.arraylength, 1) := by decide +kernel
theorem dJ5_charAt_5068e_16 : decode cJ5_charAt_5068e 16 = .ok (.iload_n 2, 1) := by decide +kernel
theorem dJ5_charAt_5068e_17 : decode cJ5_charAt_5068e 17 = .ok (.ishr, 1) := by decide +kernel
theorem dJ5_charAt_5068e_18 : decode cJ5_charAt_5068e 18 = .ok (.invokestatic 138, 3) := by decide +kernel
theorem dJ5_charAt_5068e_21 : decode cJ5_charAt_5068e 21 = .ok (.istore 4, 2) := by decide +kernel
theorem dJ5_charAt_5068e_23 : decode cJ5_charAt_5068e 23 = .ok (.iload_n 1, 1) := by decide +kernel
theorem dJ5_charAt_5068e_24 : decode cJ5_charAt_5068e 24 = .ok (.iload 4, 2) := by decide +kernel
theorem dJ5_charAt_5068e_26 : decode cJ5_charAt_5068e 26 = .ok (.invokestatic 144, 3) := by decide +kernel
theorem dJ5_charAt_5068e_29 : decode cJ5_charAt_5068e 29 = .ok (.iload_n 2, 1) := by decide +kernel
theorem dJ5_charAt_5068e_30 : decode cJ5_charAt_5068e 30 = .ok (.ifCond .ne 12, 3) := by decide +kernel
theorem dJ5_charAt_5068e_33 : decode cJ5_charAt_5068e 33 = .ok (.aload_n 3, 1) := by decide +kernel
theorem dJ5_charAt_5068e_34 : decode cJ5_charAt_5068e 34 = .ok (.iload_n 1, 1) := by decide +kernel
theorem dJ5_charAt_5068e_35 : decode cJ5_charAt_5068e 35 = .ok (.baload, 1) := by decide +kernel
theorem dJ5_charAt_5068e_36 : decode cJ5_charAt_5068e 36 = .ok (.sipush 255, 3) := by decide +kernel
theorem dJ5_charAt_5068e_39 : decode cJ5_charAt_5068e 39 = .ok (.iand, 1) := by decide +kernel
theorem dJ5_charAt_5068e_40 : decode cJ5_charAt_5068e 40 = .ok (.i2c, 1) := by decide +kernel
theorem dJ5_charAt_5068e_41 : decode cJ5_charAt_5068e 41 = .ok (.ireturn, 1) := by decide +kernel
theorem dJ4_charAt_5068e_0 : decode cJ4_charAt_5068e 0 = .ok (.aload_n 0, 1) := by decide +kernel
theorem dJ4_charAt_5068e_1 : decode cJ4_charAt_5068e 1 = .ok (.iload_n 1, 1) := by decide +kernel
theorem dJ4_charAt_5068e_2 : decode cJ4_charAt_5068e 2 = .ok (.invokespecial 329, 3) := by decide +kernel
theorem dJ4_charAt_5068e_5 : decode cJ4_charAt_5068e 5 = .ok (.ireturn, 1) := by decide +kernel
theorem dJ4_length_8abf5_0 : decode cJ4_length_8abf5 0 = .ok (.aload_n 0, 1) := by decide +kernel
theorem dJ4_length_8abf5_1 : decode cJ4_length_8abf5 1 = .ok (.invokespecial 343, 3) := by decide +kernel
theorem dJ4_length_8abf5_4 : decode cJ4_length_8abf5 4 = .ok (.ireturn, 1) := by decide +kernel
def EJ5_length_8abf5 : List (Nat × Nat) := []
def EJ4_length_8abf5 : List (Nat × Nat) := []
def EJ5_charAt_5068e : List (Nat × Nat) := []
def EJ4_charAt_5068e : List (Nat × Nat) := []
set_option maxHeartbeats 4000000 in
set_option maxRecDepth 20000 in
theorem uJ5_length_8abf5 (l : Launch) (dC : Nat → ClassId) (dI : Nat → Nat → Nat) (ca : Nat → ClassId) (base : Nat) (B : jF) (hB : jBok B) (hAp : jAp (dC, dI)) (hB0 : ∀ n G a H, B 0 n G a H ↔ jOb (dC, dI) 0 4 (Fz0 n G) a H) (G0 : jT) (H0 : Heap) (r0 : Nat) (pc : Int32) : Met l yJ5_length_8abf5 (jw yJ5_length_8abf5 cJ5_length_8abf5 1 (some .int)) ({ frames := 0, cells := 0, slots := 0, locals := 0 }) (va_Pc [.ref r0] (fun U => U.heap = H0 ∧ jX B base G0 [] H0 ∧ jG dC dI ca base U ∧ G0 r0 = some (0, 0) ∧ jP (dC, dI) G0 H0 [(r0, 0, 3, .int pc)] ∧ True)) (va_Qi (S := Unit) (fun r u => (r.toInt = pc.toInt)) (fun u t => jRt (dC, dI) B base G0 EJ5_length_8abf5 H0 [] t.heap) (jA base)) 0 0 (jA base) := by
  refine Met.ofW (cc := cJ5_length_8abf5) (maxL := 1) (ret := (some .int)) (by decide) rfl ?_
  intro p e s m args below meth c s₁ Bd hml hv
  obtain ⟨rfl, hH0, hX, hG, hg_r0, hP0, hp0⟩ := hv
  have hK := hG.1
  have hx := Bd.exec
  have hb := Bd.bytes
  have hr := Bd.returns
  have hts := atoms_spec (ws := (jw yJ5_length_8abf5 cJ5_length_8abf5 1 (some .int))) Bd.pre
  have htw : ∀ w ∈ jWl, w.before _ s = true := fun w h => hts w (List.mem_cons_of_mem _ h)
  have hown : s.vm.findClass RJ5 = some m.cls := findClass_of_methodNamed Bd.named
  have hlocks := Bd.notSynchronized
  obtain ⟨Q, hQ⟩ : ∃ Q, Q = MQ below (va_Qi (S := Unit) (fun r u => (r.toInt = pc.toInt)) (fun u t => jRt (dC, dI) B base G0 EJ5_length_8abf5 H0 [] t.heap) (jA base)) ([.ref r0] : List Value).toArray s 0 0 (jA base) := ⟨_, rfl⟩
  rw [← hQ]
  have hl := lv_entry ([.ref r0]) (n := 1) (Nat.le_of_ble_eq_true rfl)
  rw [lg_entry_eq]
  generalize (lg_sl ([.ref r0]) ++ List.replicate (1 - (lg_sl ([.ref r0])).length) Slot.unset).toArray = ls at hl ⊢
  have hl : lv_has ls 1 [(0, .ref r0)] := hl
  generalize hR : (headSpec (jw yJ5_length_8abf5 cJ5_length_8abf5 1 (some .int)) ({ frames := 0, cells := 0, slots := 0, locals := 0 })).room = R
  subst hH0
  have hh : jSt (dC, dI) B base G0 G0 EJ5_length_8abf5 s.heap 0 0 [(r0, 0, 3, .int pc)] [] [] s.heap [] := jSt.start hX hP0 jMc.nil jIs.nil
  clear hX hP0
  have hk0 : (0 : Int32).toInt = 0 := by decide
  have hk1 : (1 : Int32).toInt = 1 := by decide
  have hly_0_3 := htw (u_lay RJ4 TJ4 3) (jWc_wsJ40 _ (u_in_lay (by decide)))
  have hlk_79 := (htw (.fieldLink RJ5 79 "java/lang/AbstractStringBuilder" "count" "I") (jWr_45 _ (List.mem_of_getElem? (i := 9) rfl)))
  refine lv_aload_n hx hb dJ5_length_8abf5_0 rfl (lv_at hl 0 rfl) ?_
  refine j7_read hx hb hown hK (C := RJ4) (T := TJ4) (N := 4) rfl hly_0_3 hlk_79 (hh.at 0 rfl) dJ5_length_8abf5_1 ?_
  rw [hQ]
  exact W.iret (v := pc) hx hb hr (fun t ht hW => ⟨⟨pc, (), rfl, by first | omega | rfl | assumption | decide | exact Or.inl rfl | exact Or.inr rfl | (simp only; omega), hh.rt (M1 := []) [] rfl ht⟩, by rw [ht]; try exact hh.1.1, fun q h9 hq => by rw [ht]; try exact hh.1.2.1 q h9 hq⟩) hh.1.2.2 dJ5_length_8abf5_4
set_option maxHeartbeats 4000000 in
set_option maxRecDepth 20000 in
theorem uJ4_length_8abf5 (l : Launch) (dC : Nat → ClassId) (dI : Nat → Nat → Nat) (ca : Nat → ClassId) (base : Nat) (B : jF) (hB : jBok B) (hAp : jAp (dC, dI)) (hB0 : ∀ n G a H, B 0 n G a H ↔ jOb (dC, dI) 0 4 (Fz0 n G) a H) (G0 : jT) (H0 : Heap) (r0 : Nat) (pc : Int32) : Met l yJ4_length_8abf5 (jw yJ4_length_8abf5 cJ4_length_8abf5 1 (some .int)) ({ frames := 1, cells := 0, slots := 0, locals := 20 }) (va_Pc [.ref r0] (fun U => U.heap = H0 ∧ jX B base G0 [] H0 ∧ jG dC dI ca base U ∧ G0 r0 = some (0, 0) ∧ jP (dC, dI) G0 H0 [(r0, 0, 3, .int pc)] ∧ True)) (va_Qi (S := Unit) (fun r u => (r.toInt = pc.toInt)) (fun u t => jRt (dC, dI) B base G0 EJ4_length_8abf5 H0 [] t.heap) (jA base)) 0 0 (jA base) := by
  refine Met.ofW (cc := cJ4_length_8abf5) (maxL := 1) (ret := (some .int)) (by decide) rfl ?_
  intro p e s m args below meth c s₁ Bd hml hv
  obtain ⟨rfl, hH0, hX, hG, hg_r0, hP0, hp0⟩ := hv
  have hK := hG.1
  have hx := Bd.exec
  have hb := Bd.bytes
  have hr := Bd.returns
  have hts := atoms_spec (ws := (jw yJ4_length_8abf5 cJ4_length_8abf5 1 (some .int))) Bd.pre
  have htw : ∀ w ∈ jWl, w.before _ s = true := fun w h => hts w (List.mem_cons_of_mem _ h)
  have hown : s.vm.findClass RJ4 = some m.cls := findClass_of_methodNamed Bd.named
  have hlocks := Bd.notSynchronized
  obtain ⟨Q, hQ⟩ : ∃ Q, Q = MQ below (va_Qi (S := Unit) (fun r u => (r.toInt = pc.toInt)) (fun u t => jRt (dC, dI) B base G0 EJ4_length_8abf5 H0 [] t.heap) (jA base)) ([.ref r0] : List Value).toArray s 0 0 (jA base) := ⟨_, rfl⟩
  rw [← hQ]
  have hl := lv_entry ([.ref r0]) (n := 1) (Nat.le_of_ble_eq_true rfl)
  rw [lg_entry_eq]
  generalize (lg_sl ([.ref r0]) ++ List.replicate (1 - (lg_sl ([.ref r0])).length) Slot.unset).toArray = ls at hl ⊢
  have hl : lv_has ls 1 [(0, .ref r0)] := hl
  generalize hR : (headSpec (jw yJ4_length_8abf5 cJ4_length_8abf5 1 (some .int)) ({ frames := 1, cells := 0, slots := 0, locals := 20 })).room = R
  subst hH0
  have hh : jSt (dC, dI) B base G0 G0 EJ4_length_8abf5 s.heap 0 0 [(r0, 0, 3, .int pc)] [] [] s.heap [] := jSt.start hX hP0 jMc.nil jIs.nil
  clear hX hP0
  have hk0 : (0 : Int32).toInt = 0 := by decide
  have hk1 : (1 : Int32).toInt = 1 := by decide
  refine lv_aload_n hx hb dJ4_length_8abf5_0 rfl (lv_at hl 0 rfl) ?_
  refine va_calli (A0 := jA base) (H0 := s.heap) (va_runSU (hK.1 0 _ rfl).2 (As := []) (rest := []) ⟨hx, hb, hml, hown, hts⟩ (uJ5_length_8abf5 l dC dI ca base B hB hAp hB0 G0 s.heap r0 pc) (va_cwSU 0 hts (jgU (jWr_48 _ (List.mem_of_getElem? (i := 21) rfl)) (jWr_48 _ (List.mem_of_getElem? (i := 22) rfl)) (jWr_45 _ (List.mem_of_getElem? (i := 6) rfl)) (jWr_48 _ (List.mem_of_getElem? (i := 23) rfl)) (jWr_13 _ (List.mem_of_getElem? (i := 7) rfl)) (jWr_49 _ (List.mem_of_getElem? (i := 0) rfl))) rfl rfl rfl (by decide +kernel) ⟨by rw [← hR]; exact Nat.le_of_ble_eq_true rfl, by rw [← hR]; exact Nat.le_of_ble_eq_true rfl⟩) ⟨fun a U g mk q => by obtain ⟨q0, q1, q2, qK, q10, q11, q12⟩ := q; exact ⟨q0, q1, q2, jG.calling g mk a qK, q10, q11, q12⟩, hh.recv (C := RJ4) (T := TJ4) (N := 4) hB0 rfl (by decide) hg_r0 hK, fun U hU hW => ⟨rfl, hU, hh.2.1, hG.step hW hU hh.1, hg_r0, (hh.2.2.1.sub (L1 := [(r0, 0, 3, .int pc)]) [0] rfl), trivial⟩⟩ rfl rfl hl.1 rfl (lv_room (Nat.le_of_ble_eq_true rfl)) dJ4_length_8abf5_1 ⟨Nat.zero_le _, Nat.zero_le _⟩) hh.1 (fun q _ h => h) (fun q h => h) (fun r_2 u_1 t_1 H_1 locs_1 ht_1 hvm_1 hr_2 hb_1 hz_1 hk_1 hS_1 => ?_)
  rw [ht_1] at hb_1
  obtain ⟨hb_11, hb_12, hb_13, hb_14, hb_15⟩ := hb_1
  have hh_1 : jSt (dC, dI) B base G0 G0 EJ4_length_8abf5 s.heap 0 0 [(r0, 0, 3, .int pc)] [] [] H_1 locs_1 := ((hh.call hb_11 hb_12 hb_13 hb_14 hS_1 rfl (L1 := [(r0, 0, 3, .int pc)]) [0] rfl rfl (M1 := []) [] rfl rfl (I1 := []) [] rfl rfl).more hb_15)
  clear hh ht_1 hvm_1 hz_1 hk_1 hS_1 hb_11 hb_12 hb_13 hb_14 hb_15
  rw [hQ]
  exact W.iret (v := r_2) hx hb hr (fun t ht hW => ⟨⟨r_2, (), rfl, by first | omega | rfl | assumption | decide | exact Or.inl rfl | exact Or.inr rfl | (simp only; omega), hh_1.rt (M1 := []) [] rfl ht⟩, by rw [ht]; try exact hh_1.1.1, fun q h9 hq => by rw [ht]; try exact hh_1.1.2.1 q h9 hq⟩) hh_1.1.2.2 dJ4_length_8abf5_4
set_option maxHeartbeats 4000000 in
set_option maxRecDepth 20000 in
theorem uJ5_charAt_5068e (l : Launch) (dC : Nat → ClassId) (dI : Nat → Nat → Nat) (ca : Nat → ClassId) (base : Nat) (B : jF) (hB : jBok B) (hAp : jAp (dC, dI)) (hB0 : ∀ n G a H, B 0 n G a H ↔ jOb (dC, dI) 0 4 (Fz0 n G) a H) (hB196 : ∀ n G a H, B 196 n G a H ↔ jAr (dC, dI) (ca 0) (fun j z => jBf j z) n a H) (G0 : jT) (H0 : Heap) (r0 : Nat) (a1 : Int32) (pc : Int32) (pa : Nat) (n_pa : Nat) (fv : Nat → Int32) : Met l yJ5_charAt_5068e (jw yJ5_charAt_5068e cJ5_charAt_5068e 5 (some .char)) ({ frames := 2, cells := 0, slots := 0, locals := 61 }) (va_Pc [.ref r0, .int a1] (fun U => U.heap = H0 ∧ jX B base G0 [] H0 ∧ jG dC dI ca base U ∧ G0 r0 = some (0, 0) ∧ G0 pa = some (196, n_pa) ∧ jP (dC, dI) G0 H0 [(r0, 0, 3, .int pc), (r0, 0, 0, .ref pa)] ∧ jMc (dC, dI) G0 H0 [(pa, 196, n_pa, ca 0, fv)] ∧ 0 ≤ a1.toInt ∧ a1.toInt < pc.toInt ∧ pc.toInt ≤ n_pa ∧ n_pa ≤ 1000)) (va_Qi (S := Unit) (fun r u => (0 ≤ r.toInt ∧ r.toInt ≤ 255 ∧ r.toInt = (jCv (fv (a1.toInt).toNat)).toInt)) (fun u t => jRt (dC, dI) B base G0 EJ5_charAt_5068e H0 [] t.heap) (jA base)) 0 0 (jA base) := by
  refine Met.ofW (cc := cJ5_charAt_5068e) (maxL := 5) (ret := (some .char)) (by decide) rfl ?_
  intro p e s m args below meth c s₁ Bd hml hv
  obtain ⟨rfl, hH0, hX, hG, hg_r0, hg_pa, hP0, hM0, hp0, hp1, hp2, hp3⟩ := hv
  have hK := hG.1
  have hx := Bd.exec
  have hb := Bd.bytes
  have hr := Bd.returns
  have hts := atoms_spec (ws := (jw yJ5_charAt_5068e cJ5_charAt_5068e 5 (some .char))) Bd.pre
  have htw : ∀ w ∈ jWl, w.before _ s = true := fun w h => hts w (List.mem_cons_of_mem _ h)
  have hown : s.vm.findClass RJ5 = some m.cls := findClass_of_methodNamed Bd.named
  have hlocks := Bd.notSynchronized
  obtain ⟨Q, hQ⟩ : ∃ Q, Q = MQ below (va_Qi (S := Unit) (fun r u => (0 ≤ r.toInt ∧ r.toInt ≤ 255 ∧ r.toInt = (jCv (fv (a1.toInt).toNat)).toInt)) (fun u t => jRt (dC, dI) B base G0 EJ5_charAt_5068e H0 [] t.heap) (jA base)) ([.ref r0, .int a1] : List Value).toArray s 0 0 (jA base) := ⟨_, rfl⟩
  rw [← hQ]
  have hl := lv_entry ([.ref r0, .int a1]) (n := 5) (Nat.le_of_ble_eq_true rfl)
  rw [lg_entry_eq]
  generalize (lg_sl ([.ref r0, .int a1]) ++ List.replicate (5 - (lg_sl ([.ref r0, .int a1])).length) Slot.unset).toArray = ls at hl ⊢
  have hl : lv_has ls 5 [(0, .ref r0), (1, .int a1)] := hl
  generalize hR : (headSpec (jw yJ5_charAt_5068e cJ5_charAt_5068e 5 (some .char)) ({ frames := 2, cells := 0, slots := 0, locals := 61 })).room = R
  subst hH0
  have hh : jSt (dC, dI) B base G0 G0 EJ5_charAt_5068e s.heap 0 0 [(r0, 0, 3, .int pc), (r0, 0, 0, .ref pa)] [(pa, 196, n_pa, ca 0, fv)] [] s.heap [] := jSt.start hX hP0 hM0 jIs.nil
  clear hX hP0
  have hk0 : (0 : Int32).toInt = 0 := by decide
  have hk1 : (1 : Int32).toInt = 1 := by decide
  have hk255 : (255 : Int32).toInt = 255 := by decide
  have hly_0_0 := htw (u_lay RJ4 TJ4 0) (jWc_wsJ40 _ (u_in_lay (by decide)))
  have hly_0_1 := htw (u_lay RJ4 TJ4 1) (jWc_wsJ40 _ (u_in_lay (by decide)))
  have hly_0_3 := htw (u_lay RJ4 TJ4 3) (jWc_wsJ40 _ (u_in_lay (by decide)))
  have hlk_22 := (htw (.fieldLink RJ5 22 "java/lang/AbstractStringBuilder" "coder" "B") (jWr_13 _ (List.mem_of_getElem? (i := 12) rfl)))
  have hlk_15 := (htw (.fieldLink RJ5 15 "java/lang/AbstractStringBuilder" "value" "[B") (jWr_13 _ (List.mem_of_getElem? (i := 11) rfl)))
  have hlk_79 := (htw (.fieldLink RJ5 79 "java/lang/AbstractStringBuilder" "count" "I") (jWr_45 _ (List.mem_of_getElem? (i := 9) rfl)))
  have hrg_a1 := jb_rng a1
  refine lv_aload_n hx hb dJ5_charAt_5068e_0 rfl (lv_at hl 0 rfl) ?_
  obtain ⟨v_1, hv_1, hh_2⟩ := hh.pin (C := RJ4) (T := TJ4) (N := 4) hB0 rfl (by decide) hg_r0 (i := 1) (by decide) rfl
  clear hh
  obtain ⟨coder_3, rfl, hlocoder_3, hhicoder_3⟩ := hv_1
  obtain rfl : coder_3 = 0 := Int32.toInt_inj.mp (by rw [show (0 : Int32).toInt = 0 by decide]; omega)
  refine j7_read hx hb hown hK (C := RJ4) (T := TJ4) (N := 4) rfl hly_0_1 hlk_22 (hh_2.at 0 rfl) dJ5_charAt_5068e_1 ?_
  refine lv_istore_n (lv' := [(2, .int 0), (0, .ref r0), (1, .int a1)]) hx hb dJ5_charAt_5068e_4 rfl hl (by decide) rfl (fun ls hl => ?_)
  refine lv_aload_n hx hb dJ5_charAt_5068e_5 rfl (lv_at hl 1 rfl) ?_
  refine j7_read hx hb hown hK (C := RJ4) (T := TJ4) (N := 4) rfl hly_0_0 hlk_15 (hh_2.at 2 rfl) dJ5_charAt_5068e_6 ?_
  refine lv_astore_n (lv' := [(3, .ref pa), (2, .int 0), (0, .ref r0), (1, .int a1)]) hx hb dJ5_charAt_5068e_9 rfl hl (by decide) rfl (fun ls hl => ?_)
  refine lv_aload_n hx hb dJ5_charAt_5068e_10 rfl (lv_at hl 2 rfl) ?_
  refine j7_read hx hb hown hK (C := RJ4) (T := TJ4) (N := 4) rfl hly_0_3 hlk_79 (hh_2.at 1 rfl) dJ5_charAt_5068e_11 ?_
  refine lv_aload_n hx hb dJ5_charAt_5068e_14 rfl (lv_at hl 0 rfl) ?_
  refine j7_len hx hb hK hh_2 hB196 0 rfl (by decide) hg_pa (by omega) dJ5_charAt_5068e_15 (fun z_4 hz_4 => ?_)
  refine lv_iload_n hx hb dJ5_charAt_5068e_16 rfl (lv_at hl 1 rfl) ?_
  refine lv_ishr hx hb dJ5_charAt_5068e_17 ?_
  refine lv_topi (fun z_5 ez_5 => ?_)
  have hz_5 : z_5.toInt = z_4.toInt / 2 ^ 0 := by rw [ez_5]; exact jb_ishr 0 (rfl) (by decide)
  refine va_mmin hx hb (by rw [hml]; exact hl.1.symm) hown (htw (.methodLink RJ5 138 Lib.Math.min.name) (jWr_49 _ (List.mem_of_getElem? (i := 10) rfl))) (htw (.static Lib.Math.min.name) (jWr_16 _ (List.mem_of_getElem? (i := 16) rfl))) (htw (.initialized "java/lang/Math") (jWr_3 _ (List.mem_of_getElem? (i := 7) rfl))) (htw (.code Lib.Math.min.name Lib.Math.min.code 2 (some .int)) (jWr_16 _ (List.mem_of_getElem? (i := 17) rfl))) (by rw [← hR]; exact Nat.le_of_ble_eq_true rfl) (by rw [← hR]; exact Nat.le_of_ble_eq_true rfl) (Nat.zero_le _) (Nat.zero_le _) dJ5_charAt_5068e_18 ?_
  refine lv_topi (fun z_6 ez_6 => ?_)
  have hz_6 := jb_min ez_6
  refine lv_istore (lv' := [(4, .int z_6), (3, .ref pa), (2, .int 0), (0, .ref r0), (1, .int a1)]) hx hb dJ5_charAt_5068e_21 hl (by decide) rfl (fun ls hl => ?_)
  refine lv_iload_n hx hb dJ5_charAt_5068e_23 rfl (lv_at hl 4 rfl) ?_
  refine lv_iload hx hb dJ5_charAt_5068e_24 (lv_at hl 0 rfl) ?_
  refine va_csv (W.runS (As := [.int a1, .int z_6]) (rest := []) ⟨hx, hb, hml, hown, hts⟩ (wJ0_checkIndex_df160 l dC dI ca base s.heap a1 z_6) (va_cwS 2 hts (jgS (jWr_49 _ (List.mem_of_getElem? (i := 11) rfl)) (jWr_6 _ (List.mem_of_getElem? (i := 13) rfl)) (jWr_5 _ (List.mem_of_getElem? (i := 15) rfl)) (jWr_6 _ (List.mem_of_getElem? (i := 14) rfl))) rfl rfl rfl (by decide +kernel) ⟨by rw [← hR]; exact Nat.le_of_ble_eq_true rfl, by rw [← hR]; exact Nat.le_of_ble_eq_true rfl⟩) ⟨fun a U g mk q => by obtain ⟨q0, q1, qK, q9⟩ := q; exact ⟨q0, q1, jG.calling g mk a qK, q9⟩, fun U hU hW => ⟨rfl, hU, hG.step hW hU hh_2.1, by first | trivial | omega | (constructor <;> omega)⟩⟩ rfl rfl hl.1 rfl (lv_room (Nat.le_of_ble_eq_true rfl)) dJ5_charAt_5068e_26 ⟨Nat.zero_le _, Nat.zero_le _⟩) (fun _ => ?_)
  refine lv_iload_n hx hb dJ5_charAt_5068e_29 rfl (lv_at hl 2 rfl) ?_
  refine lv_if_ne (tgt := 42) hx hb dJ5_charAt_5068e_30 (by decide) (fun c_8 => ?_) (fun c_8 => ?_)
  · skip
    exact absurd c_8 (by decide)
  · skip
    refine lv_aload_n hx hb dJ5_charAt_5068e_33 rfl (lv_at hl 1 rfl) ?_
    refine lv_iload_n hx hb dJ5_charAt_5068e_34 rfl (lv_at hl 4 rfl) ?_
    refine j7_baldM hx hb hK hh_2 hB196 0 rfl (by decide) hg_pa (x := a1.toInt) (rfl) (by omega) (j := 0) rfl dJ5_charAt_5068e_35 (fun z_9 ez_9 (hz_9 : jBf (a1.toInt).toNat z_9) => ?_)
    have hqz_9 : z_9.toInt = jSo fv (a1.toInt) := by unfold jSo; rw [ez_9]
    refine lv_sipush (v := 255) hx hb dJ5_charAt_5068e_36 (by decide) ?_
    refine lv_iand hx hb dJ5_charAt_5068e_39 ?_
    refine lv_topi (fun z_10 ez_10 => ?_)
    have hz_10 : 0 ≤ z_10.toInt ∧ z_10.toInt ≤ 255 := by rw [ez_10]; exact jb_and z_9 (m := 255) (k := 8) (by decide) (by decide)
    refine lv_i2c hx hb dJ5_charAt_5068e_40 rfl ?_
    refine lv_topi (fun z_11 ez_11 => ?_)
    rw [hQ]
    exact W.zret (v := z_11) hx hb hr (by rw [ez_11]; exact pk_nc _) (fun t ht hW => ⟨⟨z_11, (), rfl, by have h9 : z_11 = jCv (fv a1.toInt.toNat) := (by have h8 := hqz_9; unfold jSo at h8; rw [ez_11, ez_10, Int32.toInt_inj.mp h8]; rfl); rw [h9]; exact ⟨(jb_char _).1, (jb_char _).2, rfl⟩, hh_2.rt (M1 := []) [] rfl ht⟩, by rw [ht]; try exact hh_2.1.1, fun q h9 hq => by rw [ht]; try exact hh_2.1.2.1 q h9 hq⟩) hh_2.1.2.2 dJ5_charAt_5068e_41
set_option maxHeartbeats 4000000 in
set_option maxRecDepth 20000 in
theorem uJ4_charAt_5068e (l : Launch) (dC : Nat → ClassId) (dI : Nat → Nat → Nat) (ca : Nat → ClassId) (base : Nat) (B : jF) (hB : jBok B) (hAp : jAp (dC, dI)) (hB0 : ∀ n G a H, B 0 n G a H ↔ jOb (dC, dI) 0 4 (Fz0 n G) a H) (hB196 : ∀ n G a H, B 196 n G a H ↔ jAr (dC, dI) (ca 0) (fun j z => jBf j z) n a H) (G0 : jT) (H0 : Heap) (r0 : Nat) (a1 : Int32) (pc : Int32) (pa : Nat) (n_pa : Nat) (fv : Nat → Int32) : Met l yJ4_charAt_5068e (jw yJ4_charAt_5068e cJ4_charAt_5068e 2 (some .char)) ({ frames := 3, cells := 0, slots := 0, locals := 85 }) (va_Pc [.ref r0, .int a1] (fun U => U.heap = H0 ∧ jX B base G0 [] H0 ∧ jG dC dI ca base U ∧ G0 r0 = some (0, 0) ∧ G0 pa = some (196, n_pa) ∧ jP (dC, dI) G0 H0 [(r0, 0, 3, .int pc), (r0, 0, 0, .ref pa)] ∧ jMc (dC, dI) G0 H0 [(pa, 196, n_pa, ca 0, fv)] ∧ 0 ≤ a1.toInt ∧ a1.toInt < pc.toInt ∧ pc.toInt ≤ n_pa ∧ n_pa ≤ 1000)) (va_Qi (S := Unit) (fun r u => (0 ≤ r.toInt ∧ r.toInt ≤ 255 ∧ r.toInt = (jCv (fv (a1.toInt).toNat)).toInt)) (fun u t => jRt (dC, dI) B base G0 EJ4_charAt_5068e H0 [] t.heap) (jA base)) 0 0 (jA base) := by
  refine Met.ofW (cc := cJ4_charAt_5068e) (maxL := 2) (ret := (some .char)) (by decide) rfl ?_
  intro p e s m args below meth c s₁ Bd hml hv
  obtain ⟨rfl, hH0, hX, hG, hg_r0, hg_pa, hP0, hM0, hp0, hp1, hp2, hp3⟩ := hv
  have hK := hG.1
  have hx := Bd.exec
  have hb := Bd.bytes
  have hr := Bd.returns
  have hts := atoms_spec (ws := (jw yJ4_charAt_5068e cJ4_charAt_5068e 2 (some .char))) Bd.pre
  have htw : ∀ w ∈ jWl, w.before _ s = true := fun w h => hts w (List.mem_cons_of_mem _ h)
  have hown : s.vm.findClass RJ4 = some m.cls := findClass_of_methodNamed Bd.named
  have hlocks := Bd.notSynchronized
  obtain ⟨Q, hQ⟩ : ∃ Q, Q = MQ below (va_Qi (S := Unit) (fun r u => (0 ≤ r.toInt ∧ r.toInt ≤ 255 ∧ r.toInt = (jCv (fv (a1.toInt).toNat)).toInt)) (fun u t => jRt (dC, dI) B base G0 EJ4_charAt_5068e H0 [] t.heap) (jA base)) ([.ref r0, .int a1] : List Value).toArray s 0 0 (jA base) := ⟨_, rfl⟩
  rw [← hQ]
  have hl := lv_entry ([.ref r0, .int a1]) (n := 2) (Nat.le_of_ble_eq_true rfl)
  rw [lg_entry_eq]
  generalize (lg_sl ([.ref r0, .int a1]) ++ List.replicate (2 - (lg_sl ([.ref r0, .int a1])).length) Slot.unset).toArray = ls at hl ⊢
  have hl : lv_has ls 2 [(0, .ref r0), (1, .int a1)] := hl
  generalize hR : (headSpec (jw yJ4_charAt_5068e cJ4_charAt_5068e 2 (some .char)) ({ frames := 3, cells := 0, slots := 0, locals := 85 })).room = R
  subst hH0
  have hh : jSt (dC, dI) B base G0 G0 EJ4_charAt_5068e s.heap 0 0 [(r0, 0, 3, .int pc), (r0, 0, 0, .ref pa)] [(pa, 196, n_pa, ca 0, fv)] [] s.heap [] := jSt.start hX hP0 hM0 jIs.nil
  clear hX hP0
  have hk0 : (0 : Int32).toInt = 0 := by decide
  have hk1 : (1 : Int32).toInt = 1 := by decide
  have hrg_a1 := jb_rng a1
  refine lv_aload_n hx hb dJ4_charAt_5068e_0 rfl (lv_at hl 0 rfl) ?_
  refine lv_iload_n hx hb dJ4_charAt_5068e_1 rfl (lv_at hl 1 rfl) ?_
  refine va_calli (A0 := jA base) (H0 := s.heap) (va_runSU (hK.1 0 _ rfl).2 (As := [.int a1]) (rest := []) ⟨hx, hb, hml, hown, hts⟩ (uJ5_charAt_5068e l dC dI ca base B hB hAp hB0 hB196 G0 s.heap r0 a1 pc pa n_pa fv) (va_cwSU 1 hts (jgU (jWr_49 _ (List.mem_of_getElem? (i := 6) rfl)) (jWr_49 _ (List.mem_of_getElem? (i := 7) rfl)) (jWr_45 _ (List.mem_of_getElem? (i := 6) rfl)) (jWr_49 _ (List.mem_of_getElem? (i := 8) rfl)) (jWr_13 _ (List.mem_of_getElem? (i := 7) rfl)) (jWr_49 _ (List.mem_of_getElem? (i := 9) rfl))) rfl rfl rfl (by decide +kernel) ⟨by rw [← hR]; exact Nat.le_of_ble_eq_true rfl, by rw [← hR]; exact Nat.le_of_ble_eq_true rfl⟩) ⟨fun a U g mk q => by obtain ⟨q0, q1, q2, qK, q10, q11, q12, q13, q14⟩ := q; exact ⟨q0, q1, q2, jG.calling g mk a qK, q10, q11, q12, q13, q14⟩, hh.recv (C := RJ4) (T := TJ4) (N := 4) hB0 rfl (by decide) hg_r0 hK, fun U hU hW => ⟨rfl, hU, hh.2.1, hG.step hW hU hh.1, hg_r0, hg_pa, (hh.2.2.1.sub (L1 := [(r0, 0, 3, .int pc), (r0, 0, 0, .ref pa)]) [0, 1] rfl), (hh.2.2.2.2.2.2.2.1.sub (L1 := [(pa, 196, n_pa, ca 0, fv)]) [0] rfl), by first | omega | (refine ⟨?_, ?_, ?_, ?_⟩ <;> (first | omega | rfl | assumption | decide | exact Or.inl rfl | exact Or.inr rfl | (simp only; omega)))⟩⟩ rfl rfl hl.1 rfl (lv_room (Nat.le_of_ble_eq_true rfl)) dJ4_charAt_5068e_2 ⟨Nat.zero_le _, Nat.zero_le _⟩) hh.1 (fun q _ h => h) (fun q h => h) (fun r_2 u_1 t_1 H_1 locs_1 ht_1 hvm_1 hr_2 hb_1 hz_1 hk_1 hS_1 => ?_)
  rw [ht_1] at hb_1
  obtain ⟨hb_11, hb_12, hb_13, hb_14, hb_15⟩ := hb_1
  have hh_1 : jSt (dC, dI) B base G0 G0 EJ4_charAt_5068e s.heap 0 0 [(r0, 0, 3, .int pc), (r0, 0, 0, .ref pa)] [(pa, 196, n_pa, ca 0, fv)] [] H_1 locs_1 := ((hh.call hb_11 hb_12 hb_13 hb_14 hS_1 rfl (L1 := [(r0, 0, 3, .int pc), (r0, 0, 0, .ref pa)]) [0, 1] rfl rfl (M1 := [(pa, 196, n_pa, ca 0, fv)]) [0] rfl rfl (I1 := []) [] rfl rfl).more hb_15)
  clear hh ht_1 hvm_1 hz_1 hk_1 hS_1 hb_11 hb_12 hb_13 hb_14 hb_15
  obtain ⟨hr_2_0, hr_2_1, hr_2_2⟩ := hr_2
  rw [hQ]
  exact W.zret (v := r_2) hx hb hr (jb_nch (by omega) (by omega)) (fun t ht hW => ⟨⟨r_2, (), rfl, by first | omega | (refine ⟨?_, ?_, ?_⟩ <;> (first | omega | rfl | assumption | decide | exact Or.inl rfl | exact Or.inr rfl | (simp only; omega))), hh_1.rt (M1 := []) [] rfl ht⟩, by rw [ht]; try exact hh_1.1.1, fun q h9 hq => by rw [ht]; try exact hh_1.1.2.1 q h9 hq⟩) hh_1.1.2.2 dJ4_charAt_5068e_5
end
section
theorem dX14_isContentLength_0 : decode cX14_isContentLength 0 = .ok (.ldc 220, 2) := by decide +kernel
theorem dX14_isContentLength_2 : decode cX14_isContentLength 2 = .ok (.astore_n 1, 1) := by decide +kernel
theorem dX14_isContentLength_3 : decode cX14_isContentLength 3 = .ok (.aload_n 0, 1) := by decide +kernel
theorem dX14_isContentLength_4 : decode cX14_isContentLength 4 = .ok (.getfield 26, 3) := by decide +kernel
theorem dX14_isContentLength_7 : decode cX14_isContentLength 7 = .ok (.invokevirtual 222, 3) := by decide +kernel
theorem dX14_isContentLength_10 : decode cX14_isContentLength 10 = .ok (.aload_n 1, 1) := by decide +kernel
theorem dX14_isContentLength_11 : decode cX14_isContentLength 11 = .ok (.invokevirtual 163, 3) := by decide +kernel
theorem dX14_isContentLength_14 : decode cX14_isContentLength 14 = .ok (.if_icmp .eq 5, 3) := by decide +kernel
theorem dX14_isContentLength_17 : decode cX14_isContentLength 17 = .ok (.iconst 0, 1) := by decide +kernel
theorem dX14_isContentLength_18 : decode cX14_isContentLength 18 = .ok (.ireturn, 1) := by decide +kernel
theorem dX14_isContentLength_19 : decode cX14_isContentLength 19 = .ok (.iconst 0, 1) := by decide +kernel
theorem dX14_isContentLength_20 : decode cX14_isContentLength 20 = .ok (.istore_n 2, 1) := by decide +kernel
theorem dX14_isContentLength_21 : decode cX14_isContentLength 21 = .ok (.iload_n 2, 1) := by decide +kernel
theorem dX14_isContentLength_22 : decode cX14_isContentLength 22 = .ok (.aload_n 1, 1) := by decide +kernel
theorem dX14_isContentLength_23 : decode cX14_isContentLength 23 = .ok (.invokevirtual 163, 3) := by decide +kernel
theorem dX14_isContentLength_26 : decode cX14_isContentLength 26 = .ok (.if_icmp .ge 47, 3) := by decide +kernel
theorem dX14_isContentLength_29 : decode cX14_isContentLength 29 = .ok (.aload_n 0, 1) := by decide +kernel
theorem dX14_isContentLength_30 : decode cX14_isContentLength 30 = .ok (.getfield 26, 3) := by decide +kernel
theorem dX14_isContentLength_33 : decode cX14_isContentLength 33 = .ok (.iload_n 2, 1) := by decide +kernel
theorem dX14_isContentLength_34 : decode cX14_isContentLength 34 = .ok (.invokevirtual 223, 3) := by decide +kernel
theorem dX14_isContentLength_37 : decode cX14_isContentLength 37 = .ok (.istore_n 3, 1) := by decide +kernel
theorem dX14_isContentLength_38 : decode cX14_isContentLength 38 = .ok (.iload_n 3, 1) := by decide +kernel
theorem dX14_isContentLength_39 : decode cX14_isContentLength 39 = .ok (.bipush 65, 2) := by decide +kernel
theorem dX14_isContentLength_41 : decode cX14_isContentLength 41 = .ok (.bipush 90, 2) := by decide +kernel
theorem dX14_isContentLength_43 : decode cX14_isContentLength 43 = .ok (.invokestatic 181, 3) := by decide +kernel
theorem dX14_isContentLength_46 : decode cX14_isContentLength 46 = .ok (.ifCond .eq 10, 3) := by decide +kernel
theorem dX14_isContentLength_49 : decode cX14_isContentLength 49 = .ok (.iload_n 3, 1) := by decide +kernel
theorem dX14_isContentLength_50 : decode cX14_isContentLength 50 = .ok (.bipush 32, 2) := by decide +kernel
theorem dX14_isContentLength_52 : decode cX14_isContentLength 52 = .ok (.iadd, 1) := by decide +kernel
theorem dX14_isContentLength_53 : decode cX14_isContentLength 53 = .ok (.goto 4, 3) := by decide +kernel
theorem dX14_isContentLength_56 : decode cX14_isContentLength 56 = .ok (.iload_n 3, 1) := by decide +kernel
theorem dX14_isContentLength_57 : decode cX14_isContentLength 57 = .ok (.aload_n 1, 1) := by decide +kernel
theorem dX14_isContentLength_58 : decode cX14_isContentLength 58 = .ok (.iload_n 2, 1) := by decide +kernel
theorem dX14_isContentLength_59 : decode cX14_isContentLength 59 = .ok (.invokevirtual 168, 3) := by decide +kernel
theorem dX14_isContentLength_62 : decode cX14_isContentLength 62 = .ok (.if_icmp .eq 5, 3) := by decide +kernel
theorem dX14_isContentLength_65 : decode cX14_isContentLength 65 = .ok (.iconst 0, 1) := by decide +kernel
theorem dX14_isContentLength_66 : decode cX14_isContentLength 66 = .ok (.ireturn, 1) := by decide +kernel
theorem dX14_isContentLength_67 : decode cX14_isContentLength 67 = .ok (.iinc 2 1, 3) := by decide +kernel
theorem dX14_isContentLength_70 : decode cX14_isContentLength 70 = .ok (.goto (-49), 3) := by decide +kernel
theorem dX14_isContentLength_73 : decode cX14_isContentLength 73 = .ok (.iconst 1, 1) := by decide +kernel
theorem dX14_isContentLength_74 : decode cX14_isContentLength 74 = .ok (.ireturn, 1) := by decide +kernel
theorem dX14_isLengthSoFar_0 : decode cX14_isLengthSoFar 0 = .ok (.aload_n 0, 1) := by decide +kernel
theorem dX14_isLengthSoFar_1 : decode cX14_isLengthSoFar 1 = .ok (.getfield 30, 3) := by decide +kernel
theorem dX14_isLengthSoFar_4 : decode cX14_isLengthSoFar 4 = .ok (.invokevirtual 222, 3) := by decide +kernel
theorem dX14_isLengthSoFar_7 : decode cX14_isLengthSoFar 7 = .ok (.istore_n 2, 1) := by decide +kernel
theorem dX14_isLengthSoFar_8 : decode cX14_isLengthSoFar 8 = .ok (.iload_n 2, 1) := by decide +kernel
theorem dX14_isLengthSoFar_9 : decode cX14_isLengthSoFar 9 = .ok (.iconst 4, 1) := by decide +kernel
theorem dX14_isLengthSoFar_10 : decode cX14_isLengthSoFar 10 = .ok (.if_icmp .gt 11, 3) := by decide +kernel
theorem dX14_isLengthSoFar_13 : decode cX14_isLengthSoFar 13 = .ok (.iload_n 1, 1) := by decide +kernel
theorem dX14_isLengthSoFar_14 : decode cX14_isLengthSoFar 14 = .ok (.ifCond .eq 9, 3) := by decide +kernel
theorem dX14_isLengthSoFar_17 : decode cX14_isLengthSoFar 17 = .ok (.iload_n 2, 1) := by decide +kernel
theorem dX14_isLengthSoFar_18 : decode cX14_isLengthSoFar 18 = .ok (.ifCond .ne 5, 3) := by decide +kernel
theorem dX14_isLengthSoFar_21 : decode cX14_isLengthSoFar 21 = .ok (.iconst 0, 1) := by decide +kernel
theorem dX14_isLengthSoFar_22 : decode cX14_isLengthSoFar 22 = .ok (.ireturn, 1) := by decide +kernel
theorem dX14_isLengthSoFar_23 : decode cX14_isLengthSoFar 23 = .ok (.iconst 0, 1) := by decide +kernel
theorem dX14_isLengthSoFar_24 : decode cX14_isLengthSoFar 24 = .ok (.istore_n 3, 1) := by decide +kernel
theorem dX14_isLengthSoFar_25 : decode cX14_isLengthSoFar 25 = .ok (.iconst 0, 1) := by decide +kernel
theorem dX14_isLengthSoFar_26 : decode cX14_isLengthSoFar 26 = .ok (.istore 4, 2) := by decide +kernel
theorem dX14_isLengthSoFar_28 : decode cX14_isLengthSoFar 28 = .ok (.iload 4, 2) := by decide +kernel
theorem dX14_isLengthSoFar_30 : decode cX14_isLengthSoFar 30 = .ok (.iload_n 2, 1) := by decide +kernel
theorem dX14_isLengthSoFar_31 : decode cX14_isLengthSoFar 31 = .ok (.if_icmp .ge 44, 3) := by decide +kernel
theorem dX14_isLengthSoFar_34 : decode cX14_isLengthSoFar 34 = .ok (.aload_n 0, 1) := by decide +kernel
theorem dX14_isLengthSoFar_35 : decode cX14_isLengthSoFar 35 = .ok (.getfield 30, 3) := by decide +kernel
theorem dX14_isLengthSoFar_38 : decode cX14_isLengthSoFar 38 = .ok (.iload 4, 2) := by decide +kernel
theorem dX14_isLengthSoFar_40 : decode cX14_isLengthSoFar 40 = .ok (.invokevirtual 223, 3) := by decide +kernel
theorem dX14_isLengthSoFar_43 : decode cX14_isLengthSoFar 43 = .ok (.invokestatic 224, 3) := by decide +kernel
theorem dX14_isLengthSoFar_46 : decode cX14_isLengthSoFar 46 = .ok (.ifCond .ne 5, 3) := by decide +kernel
theorem dX14_isLengthSoFar_49 : decode cX14_isLengthSoFar 49 = .ok (.iconst 0, 1) := by decide +kernel
theorem dX14_isLengthSoFar_50 : decode cX14_isLengthSoFar 50 = .ok (.ireturn, 1) := by decide +kernel
theorem dX14_isLengthSoFar_51 : decode cX14_isLengthSoFar 51 = .ok (.bipush 10, 2) := by decide +kernel
theorem dX14_isLengthSoFar_53 : decode cX14_isLengthSoFar 53 = .ok (.iload_n 3, 1) := by decide +kernel
theorem dX14_isLengthSoFar_54 : decode cX14_isLengthSoFar 54 = .ok (.imul, 1) := by decide +kernel
theorem dX14_isLengthSoFar_55 : decode cX14_isLengthSoFar 55 = .ok (.aload_n 0, 1) := by decide +kernel
theorem dX14_isLengthSoFar_56 : decode cX14_isLengthSoFar 56 = .ok (.getfield 30, 3) := by decide +kernel
theorem dX14_isLengthSoFar_59 : decode cX14_isLengthSoFar 59 = .ok (.iload 4, 2) := by decide +kernel
theorem dX14_isLengthSoFar_61 : decode cX14_isLengthSoFar 61 = .ok (.invokevirtual 223, 3) := by decide +kernel
theorem dX14_isLengthSoFar_64 : decode cX14_isLengthSoFar 64 = .ok (.iadd, 1) := by decide +kernel
theorem dX14_isLengthSoFar_65 : decode cX14_isLengthSoFar 65 = .ok (.bipush 48, 2) := by decide +kernel
theorem dX14_isLengthSoFar_67 : decode cX14_isLengthSoFar 67 = .ok (.isub, 1) := by decide +kernel
theorem dX14_isLengthSoFar_68 : decode cX14_isLengthSoFar 68 = .ok (.istore_n 3, 1) := by decide +kernel
theorem dX14_isLengthSoFar_69 : decode cX14_isLengthSoFar 69 = .ok (.iinc 4 1, 3) := by decide +kernel
theorem dX14_isLengthSoFar_72 : decode cX14_isLengthSoFar 72 = .ok (.goto (-44), 3) := by decide +kernel
theorem dX14_isLengthSoFar_75 : decode cX14_isLengthSoFar 75 = .ok (.iload_n 3, 1) := by decide +kernel
theorem dX14_isLengthSoFar_76 : decode cX14_isLengthSoFar 76 = .ok (.sipush 3000, 3) := by decide +kernel
theorem dX14_isLengthSoFar_79 : decode cX14_isLengthSoFar 79 = .ok (.if_icmp .gt 7, 3) := by decide +kernel
theorem dX14_isLengthSoFar_82 : decode cX14_isLengthSoFar 82 = .ok (.iconst 1, 1) := by decide +kernel
theorem dX14_isLengthSoFar_83 : decode cX14_isLengthSoFar 83 = .ok (.goto 4, 3) := by decide +kernel
theorem dX14_isLengthSoFar_86 : decode cX14_isLengthSoFar 86 = .ok (.iconst 0, 1) := by decide +kernel
theorem dX14_isLengthSoFar_87 : decode cX14_isLengthSoFar 87 = .ok (.ireturn, 1) := by decide +kernel
theorem dX14_lengthTold_0 : decode cX14_lengthTold 0 = .ok (.iconst 0, 1) := by decide +kernel
theorem dX14_lengthTold_1 : decode cX14_lengthTold 1 = .ok (.istore_n 1, 1) := by decide +kernel
theorem dX14_lengthTold_2 : decode cX14_lengthTold 2 = .ok (.iconst 0, 1) := by decide +kernel
theorem dX14_lengthTold_3 : decode cX14_lengthTold 3 = .ok (.istore_n 2, 1) := by decide +kernel
theorem dX14_lengthTold_4 : decode cX14_lengthTold 4 = .ok (.iload_n 2, 1) := by decide +kernel
theorem dX14_lengthTold_5 : decode cX14_lengthTold 5 = .ok (.aload_n 0, 1) := by decide +kernel
theorem dX14_lengthTold_6 : decode cX14_lengthTold 6 = .ok (.getfield 30, 3) := by decide +kernel
theorem dX14_lengthTold_9 : decode cX14_lengthTold 9 = .ok (.invokevirtual 222, 3) := by decide +kernel
theorem dX14_lengthTold_12 : decode cX14_lengthTold 12 = .ok (.if_icmp .ge 26, 3) := by decide +kernel
theorem dX14_lengthTold_15 : decode cX14_lengthTold 15 = .ok (.bipush 10, 2) := by decide +kernel
theorem dX14_lengthTold_17 : decode cX14_lengthTold 17 = .ok (.iload_n 1, 1) := by decide +kernel
theorem dX14_lengthTold_18 : decode cX14_lengthTold 18 = .ok (.imul, 1) := by decide +kernel
theorem dX14_lengthTold_19 : decode cX14_lengthTold 19 = .ok (.aload_n 0, 1) := by decide +kernel
theorem dX14_lengthTold_20 : decode cX14_lengthTold 20 = .ok (.getfield 30, 3) := by decide +kernel
theorem dX14_lengthTold_23 : decode cX14_lengthTold 23 = .ok (.iload_n 2, 1) := by decide +kernel
theorem dX14_lengthTold_24 : decode cX14_lengthTold 24 = .ok (.invokevirtual 223, 3) := by decide +kernel
theorem dX14_lengthTold_27 : decode cX14_lengthTold 27 = .ok (.iadd, 1) := by decide +kernel
theorem dX14_lengthTold_28 : decode cX14_lengthTold 28 = .ok (.bipush 48, 2) := by decide +kernel
theorem dX14_lengthTold_30 : decode cX14_lengthTold 30 = .ok (.isub, 1) := by decide +kernel
theorem dX14_lengthTold_31 : decode cX14_lengthTold 31 = .ok (.istore_n 1, 1) := by decide +kernel
theorem dX14_lengthTold_32 : decode cX14_lengthTold 32 = .ok (.iinc 2 1, 3) := by decide +kernel
theorem dX14_lengthTold_35 : decode cX14_lengthTold 35 = .ok (.goto (-31), 3) := by decide +kernel
theorem dX14_lengthTold_38 : decode cX14_lengthTold 38 = .ok (.iload_n 1, 1) := by decide +kernel
theorem dX14_lengthTold_39 : decode cX14_lengthTold 39 = .ok (.ireturn, 1) := by decide +kernel
def EX14_lengthTold : List (Nat × Nat) := []
def EX14_isLengthSoFar : List (Nat × Nat) := []
def EX14_isContentLength : List (Nat × Nat) := []
set_option maxHeartbeats 4000000 in
set_option maxRecDepth 20000 in
theorem uX14_lengthTold (l : Launch) (dC : Nat → ClassId) (dI : Nat → Nat → Nat) (ca : Nat → ClassId) (base : Nat) (B : jF) (hB : jBok B) (hAp : jAp (dC, dI)) (hB0 : ∀ n G a H, B 0 n G a H ↔ jOb (dC, dI) 0 4 (Fz0 n G) a H) (hB16 : ∀ n G a H, B 16 n G a H ↔ jOb (dC, dI) 16 74 (F16 n G) a H) (hB196 : ∀ n G a H, B 196 n G a H ↔ jAr (dC, dI) (ca 0) (fun j z => jBf j z) n a H) (G0 : jT) (H0 : Heap) (r0 : Nat) (bv : Nat) (pc : Int32) (pa : Nat) (n_pa : Nat) (fv : Nat → Int32) : Met l yX14_lengthTold (jw yX14_lengthTold cX14_lengthTold 3 (some .int)) ({ frames := 4, cells := 0, slots := 0, locals := 106 }) (va_Pc [.ref r0] (fun U => U.heap = H0 ∧ jX B base G0 [] H0 ∧ jG dC dI ca base U ∧ G0 r0 = some (16, 0) ∧ G0 bv = some (0, 0) ∧ G0 pa = some (196, n_pa) ∧ jP (dC, dI) G0 H0 [(r0, 16, 14, .ref bv), (bv, 0, 3, .int pc), (bv, 0, 0, .ref pa)] ∧ jMc (dC, dI) G0 H0 [(pa, 196, n_pa, ca 0, fv)] ∧ 0 ≤ pc.toInt ∧ pc.toInt ≤ n_pa ∧ n_pa ≤ 1000 ∧ pc.toInt ≤ 4 ∧ jDg fv pc.toInt)) (va_Qi (S := Unit) (fun r u => (r.toInt = jNm fv (pc.toInt).toNat)) (fun u t => jRt (dC, dI) B base G0 EX14_lengthTold H0 [] t.heap) (jA base)) 0 0 (jA base) := by
  refine Met.ofW (cc := cX14_lengthTold) (maxL := 3) (ret := (some .int)) (by decide) rfl ?_
  intro p e s m args below meth c s₁ Bd hml hv
  obtain ⟨rfl, hH0, hX, hG, hg_r0, hg_bv, hg_pa, hP0, hM0, hp0, hp1, hp2, hp3, hp4⟩ := hv
  have hK := hG.1
  have hx := Bd.exec
  have hb := Bd.bytes
  have hr := Bd.returns
  have hts := atoms_spec (ws := (jw yX14_lengthTold cX14_lengthTold 3 (some .int))) Bd.pre
  have htw : ∀ w ∈ jWl, w.before _ s = true := fun w h => hts w (List.mem_cons_of_mem _ h)
  have hown : s.vm.findClass RX14 = some m.cls := findClass_of_methodNamed Bd.named
  have hlocks := Bd.notSynchronized
  obtain ⟨Q, hQ⟩ : ∃ Q, Q = MQ below (va_Qi (S := Unit) (fun r u => (r.toInt = jNm fv (pc.toInt).toNat)) (fun u t => jRt (dC, dI) B base G0 EX14_lengthTold H0 [] t.heap) (jA base)) ([.ref r0] : List Value).toArray s 0 0 (jA base) := ⟨_, rfl⟩
  rw [← hQ]
  have hl := lv_entry ([.ref r0]) (n := 3) (Nat.le_of_ble_eq_true rfl)
  rw [lg_entry_eq]
  generalize (lg_sl ([.ref r0]) ++ List.replicate (3 - (lg_sl ([.ref r0])).length) Slot.unset).toArray = ls at hl ⊢
  have hl : lv_has ls 3 [(0, .ref r0)] := hl
  generalize hR : (headSpec (jw yX14_lengthTold cX14_lengthTold 3 (some .int)) ({ frames := 4, cells := 0, slots := 0, locals := 106 })).room = R
  subst hH0
  have hh : jSt (dC, dI) B base G0 G0 EX14_lengthTold s.heap 0 0 [(r0, 16, 14, .ref bv), (bv, 0, 3, .int pc), (bv, 0, 0, .ref pa)] [(pa, 196, n_pa, ca 0, fv)] [] s.heap [] := jSt.start hX hP0 hM0 jIs.nil
  clear hX hP0
  have hk0 : (0 : Int32).toInt = 0 := by decide
  have hk1 : (1 : Int32).toInt = 1 := by decide
  have hk10 : (10 : Int32).toInt = 10 := by decide
  have hk48 : (48 : Int32).toInt = 48 := by decide
  have hly_16_14 := htw (u_lay RX14 TX14 14) (jWc_wsX140 _ (u_in_lay (by decide)))
  have hlk_30 := (htw (.fieldLink RX14 30 "ProofServerModel" "value" "Ljava/lang/StringBuilder;") (jWr_11 _ (List.mem_of_getElem? (i := 2) rfl)))
  refine lv_iconst (v := 0) hx hb dX14_lengthTold_0 (by decide) ?_
  refine lv_istore_n (lv' := [(1, .int 0), (0, .ref r0)]) hx hb dX14_lengthTold_1 rfl hl (by decide) rfl (fun ls hl => ?_)
  refine lv_iconst (v := 0) hx hb dX14_lengthTold_2 (by decide) ?_
  refine lv_istore_n (lv' := [(2, .int 0), (1, .int 0), (0, .ref r0)]) hx hb dX14_lengthTold_3 rfl hl (by decide) rfl (fun ls hl => ?_)
  have L4 : ∀ (N : Nat) (v1_1 : Int32) (v2_1 : Int32) (H_1 : Heap) (locs_1 : List Loc), jSt (dC, dI) B base G0 G0 EX14_lengthTold s.heap 0 0 [(r0, 16, 14, .ref bv), (bv, 0, 3, .int pc), (bv, 0, 0, .ref pa)] [(pa, 196, n_pa, ca 0, fv)] [] H_1 locs_1 → (0 ≤ v2_1.toInt ∧ v2_1.toInt ≤ pc.toInt ∧ v1_1.toInt = jNm fv (v2_1.toInt).toNat ∧ 0 ≤ v1_1.toInt ∧ (v2_1.toInt ≤ 0 → v1_1.toInt ≤ 0) ∧ (v2_1.toInt ≤ 1 → v1_1.toInt ≤ 9) ∧ (v2_1.toInt ≤ 2 → v1_1.toInt ≤ 99) ∧ (v2_1.toInt ≤ 3 → v1_1.toInt ≤ 999) ∧ v1_1.toInt ≤ 9999) → (pc.toInt - v2_1.toInt : Int) < N → ∀ ls : Array Slot, lv_has ls 3 [(0, .ref r0), (1, .int v1_1), (2, .int v2_1)] → W p l e R s m ([.ref r0] : List Value).toArray below meth c H_1 locs_1 0 0 Q (F0 m 4 ls []) := by
    intro N
    induction N with
    | zero => intro v1_1 v2_1 H_1 locs_1 hh_1  hi_1 hm; exact absurd hm (by omega)
    | succ N L4 =>
      intro v1_1 v2_1 H_1 locs_1 hh_1  hi_1 hm_1 ls hl
      obtain ⟨hi_1_0, hi_1_1, hi_1_2, hi_1_3, hi_1_4, hi_1_5, hi_1_6, hi_1_7, hi_1_8⟩ := hi_1
      refine lv_iload_n hx hb dX14_lengthTold_4 rfl (lv_at hl 2 rfl) ?_
      refine lv_aload_n hx hb dX14_lengthTold_5 rfl (lv_at hl 0 rfl) ?_
      refine j7_read hx hb hown hK (C := RX14) (T := TX14) (N := 74) rfl hly_16_14 hlk_30 (hh_1.at 0 rfl) dX14_lengthTold_6 ?_
      refine va_calli (A0 := jA base) (H0 := s.heap) (va_runV (As := []) (rest := [.int v2_1]) ⟨hx, hb, hml, hown, hts⟩ (uJ4_length_8abf5 l dC dI ca base B hB hAp hB0 G0 H_1 bv pc) (cwV 0 hts (jgV (jWr_48 _ (List.mem_of_getElem? (i := 17) rfl)) (jWr_48 _ (List.mem_of_getElem? (i := 18) rfl)) (jWr_48 _ (List.mem_of_getElem? (i := 19) rfl)) (jWr_11 _ (List.mem_of_getElem? (i := 0) rfl)) (jWr_48 _ (List.mem_of_getElem? (i := 20) rfl))) rfl rfl rfl (by decide +kernel) ⟨by rw [← hR]; exact Nat.le_of_ble_eq_true rfl, by rw [← hR]; exact Nat.le_of_ble_eq_true rfl⟩) ⟨fun a U g mk q => by obtain ⟨q0, q1, q2, qK, q10, q11, q12⟩ := q; exact ⟨q0, q1, q2, jG.calling g mk a qK, q10, q11, q12⟩, hh_1.recv (C := RJ4) (T := TJ4) (N := 4) hB0 rfl (by decide) hg_bv hK, fun U hU hW => ⟨rfl, hU, hh_1.2.1, hG.step hW hU hh_1.1, hg_bv, (hh_1.2.2.1.sub (L1 := [(bv, 0, 3, .int pc)]) [1] rfl), trivial⟩⟩ rfl rfl hl.1 rfl (lv_room (Nat.le_of_ble_eq_true rfl)) dX14_lengthTold_9 ⟨Nat.zero_le _, Nat.zero_le _⟩) hh_1.1 (fun q _ h => h) (fun q h => h) (fun r_3 u_2 t_2 H_2 locs_2 ht_2 hvm_2 hr_3 hb_2 hz_2 hk_2 hS_2 => ?_)
      rw [ht_2] at hb_2
      obtain ⟨hb_21, hb_22, hb_23, hb_24, hb_25⟩ := hb_2
      have hh_2 : jSt (dC, dI) B base G0 G0 EX14_lengthTold s.heap 0 0 [(r0, 16, 14, .ref bv), (bv, 0, 3, .int pc), (bv, 0, 0, .ref pa)] [(pa, 196, n_pa, ca 0, fv)] [] H_2 locs_2 := ((hh_1.call hb_21 hb_22 hb_23 hb_24 hS_2 rfl (L1 := [(r0, 16, 14, .ref bv), (bv, 0, 3, .int pc), (bv, 0, 0, .ref pa)]) [0, 1, 2] rfl rfl (M1 := [(pa, 196, n_pa, ca 0, fv)]) [0] rfl rfl (I1 := []) [] rfl rfl).more hb_25)
      clear hh_1 ht_2 hvm_2 hz_2 hk_2 hS_2 hb_21 hb_22 hb_23 hb_24 hb_25
      refine lv_icmp_ge (tgt := 38) hx hb dX14_lengthTold_12 (by decide) (fun c_4 => ?_) (fun c_4 => ?_)
      · skip
        have c_4' : v2_1.toInt ≥ r_3.toInt := jb_ge (rfl) (rfl) c_4
        refine lv_iload_n hx hb dX14_lengthTold_38 rfl (lv_at hl 1 rfl) ?_
        rw [hQ]
        exact W.iret (v := v1_1) hx hb hr (fun t ht hW => ⟨⟨v1_1, (), rfl, by rw [show pc.toInt = v2_1.toInt by omega]; exact hi_1_2, hh_2.rt (M1 := []) [] rfl ht⟩, by rw [ht]; try exact hh_2.1.1, fun q h9 hq => by rw [ht]; try exact hh_2.1.2.1 q h9 hq⟩) hh_2.1.2.2 dX14_lengthTold_39
      · skip
        have c_4' : v2_1.toInt < r_3.toInt := jb_ge_n (rfl) (rfl) c_4
        have hdg := hp4 v2_1.toInt (by omega) (by omega)
        refine lv_bipush (v := 10) hx hb dX14_lengthTold_15 (by decide) ?_
        refine lv_iload_n hx hb dX14_lengthTold_17 rfl (lv_at hl 1 rfl) ?_
        refine lv_imul hx hb dX14_lengthTold_18 ?_
        refine lv_topi (fun z_5 ez_5 => ?_)
        have hz_5 : z_5.toInt = 10 * v1_1.toInt := by rw [ez_5]; exact jb_imul2 ((by decide)) (rfl) (by omega)
        refine lv_aload_n hx hb dX14_lengthTold_19 rfl (lv_at hl 0 rfl) ?_
        refine j7_read hx hb hown hK (C := RX14) (T := TX14) (N := 74) rfl hly_16_14 hlk_30 (hh_2.at 0 rfl) dX14_lengthTold_20 ?_
        refine lv_iload_n hx hb dX14_lengthTold_23 rfl (lv_at hl 2 rfl) ?_
        refine va_calli (A0 := jA base) (H0 := s.heap) (va_runV (As := [.int v2_1]) (rest := [.int z_5]) ⟨hx, hb, hml, hown, hts⟩ (uJ4_charAt_5068e l dC dI ca base B hB hAp hB0 hB196 G0 H_2 bv v2_1 pc pa n_pa fv) (cwV 1 hts (jgV (jWr_49 _ (List.mem_of_getElem? (i := 2) rfl)) (jWr_49 _ (List.mem_of_getElem? (i := 3) rfl)) (jWr_49 _ (List.mem_of_getElem? (i := 4) rfl)) (jWr_11 _ (List.mem_of_getElem? (i := 0) rfl)) (jWr_49 _ (List.mem_of_getElem? (i := 5) rfl))) rfl rfl rfl (by decide +kernel) ⟨by rw [← hR]; exact Nat.le_of_ble_eq_true rfl, by rw [← hR]; exact Nat.le_of_ble_eq_true rfl⟩) ⟨fun a U g mk q => by obtain ⟨q0, q1, q2, qK, q10, q11, q12, q13, q14⟩ := q; exact ⟨q0, q1, q2, jG.calling g mk a qK, q10, q11, q12, q13, q14⟩, hh_2.recv (C := RJ4) (T := TJ4) (N := 4) hB0 rfl (by decide) hg_bv hK, fun U hU hW => ⟨rfl, hU, hh_2.2.1, hG.step hW hU hh_2.1, hg_bv, hg_pa, (hh_2.2.2.1.sub (L1 := [(bv, 0, 3, .int pc), (bv, 0, 0, .ref pa)]) [1, 2] rfl), (hh_2.2.2.2.2.2.2.2.1.sub (L1 := [(pa, 196, n_pa, ca 0, fv)]) [0] rfl), by first | omega | (refine ⟨?_, ?_, ?_, ?_⟩ <;> (first | omega | rfl | assumption | decide | exact Or.inl rfl | exact Or.inr rfl | (simp only; omega)))⟩⟩ rfl rfl hl.1 rfl (lv_room (Nat.le_of_ble_eq_true rfl)) dX14_lengthTold_24 ⟨Nat.zero_le _, Nat.zero_le _⟩) hh_2.1 (fun q _ h => h) (fun q h => h) (fun r_7 u_6 t_6 H_6 locs_6 ht_6 hvm_6 hr_7 hb_6 hz_6 hk_6 hS_6 => ?_)
        rw [ht_6] at hb_6
        obtain ⟨hb_61, hb_62, hb_63, hb_64, hb_65⟩ := hb_6
        have hh_6 : jSt (dC, dI) B base G0 G0 EX14_lengthTold s.heap 0 0 [(r0, 16, 14, .ref bv), (bv, 0, 3, .int pc), (bv, 0, 0, .ref pa)] [(pa, 196, n_pa, ca 0, fv)] [] H_6 locs_6 := ((hh_2.call hb_61 hb_62 hb_63 hb_64 hS_6 rfl (L1 := [(r0, 16, 14, .ref bv), (bv, 0, 3, .int pc), (bv, 0, 0, .ref pa)]) [0, 1, 2] rfl rfl (M1 := [(pa, 196, n_pa, ca 0, fv)]) [0] rfl rfl (I1 := []) [] rfl rfl).more hb_65)
        clear hh_2 ht_6 hvm_6 hz_6 hk_6 hS_6 hb_61 hb_62 hb_63 hb_64 hb_65
        obtain ⟨hr_7_0, hr_7_1, hr_7_2⟩ := hr_7
        refine lv_iadd hx hb dX14_lengthTold_27 ?_
        refine lv_topi (fun z_8 ez_8 => ?_)
        have hz_8 : z_8.toInt = z_5.toInt + r_7.toInt := by rw [ez_8]; exact jb_iadd2 (rfl) (rfl) (by omega)
        refine lv_bipush (v := 48) hx hb dX14_lengthTold_28 (by decide) ?_
        refine lv_isub hx hb dX14_lengthTold_30 ?_
        refine lv_topi (fun z_9 ez_9 => ?_)
        have hz_9 : z_9.toInt = z_8.toInt - 48 := by rw [ez_9]; exact jb_isub2 (rfl) ((by decide)) (by omega)
        refine lv_istore_n (lv' := [(1, .int z_9), (0, .ref r0), (2, .int v2_1)]) hx hb dX14_lengthTold_31 rfl hl (by decide) rfl (fun ls hl => ?_)
        obtain ⟨z_10, ez_10⟩ : ∃ y : Int32, y = v2_1 + 1 := ⟨_, rfl⟩
        refine lv_iinc (v := z_10) (lv' := [(2, .int z_10), (1, .int z_9), (0, .ref r0)]) hx hb dX14_lengthTold_32 hl (k := 2) rfl (by rw [ez_10]; rfl) (by decide) rfl (fun ls hl => ?_)
        have hz_10 : z_10.toInt = v2_1.toInt + 1 := by rw [ez_10]; exact jb_iadd2 (rfl) (by decide) (by omega)
        refine lv_goto (tgt := 4) hx hb dX14_lengthTold_35 (by decide) ?_
        exact L4 z_9 z_10 _ _ hh_6 (by have hd0 := hdg; refine ⟨by omega, by omega, jNm_s hi_1_2 (by omega) hr_7_2 (by omega) (by omega), by omega, by omega, by omega, by omega, by omega, by omega⟩) (by omega) _ (lv_sub hl [2, 1, 0] rfl)
  exact L4 (pc.toInt - (0 : Int32).toInt : Int).toNat.succ 0 0 _ _ hh (by refine ⟨by omega, by omega, by rw [hk0]; rfl, by omega, by omega, by omega, by omega, by omega, by omega⟩) (by omega) _ (lv_sub hl [2, 1, 0] rfl)
set_option maxHeartbeats 4000000 in
set_option maxRecDepth 20000 in
theorem uX14_isLengthSoFar (l : Launch) (dC : Nat → ClassId) (dI : Nat → Nat → Nat) (ca : Nat → ClassId) (base : Nat) (B : jF) (hB : jBok B) (hAp : jAp (dC, dI)) (hB0 : ∀ n G a H, B 0 n G a H ↔ jOb (dC, dI) 0 4 (Fz0 n G) a H) (hB16 : ∀ n G a H, B 16 n G a H ↔ jOb (dC, dI) 16 74 (F16 n G) a H) (hB196 : ∀ n G a H, B 196 n G a H ↔ jAr (dC, dI) (ca 0) (fun j z => jBf j z) n a H) (G0 : jT) (H0 : Heap) (r0 : Nat) (a1 : Int32) (bv : Nat) (pc : Int32) (pa : Nat) (n_pa : Nat) (fv : Nat → Int32) : Met l yX14_isLengthSoFar (jw yX14_isLengthSoFar cX14_isLengthSoFar 5 (some .boolean)) ({ frames := 4, cells := 0, slots := 0, locals := 106 }) (va_Pc [.ref r0, .int a1] (fun U => U.heap = H0 ∧ jX B base G0 [] H0 ∧ jG dC dI ca base U ∧ G0 r0 = some (16, 0) ∧ (a1 = 0 ∨ a1 = 1) ∧ G0 bv = some (0, 0) ∧ G0 pa = some (196, n_pa) ∧ jP (dC, dI) G0 H0 [(r0, 16, 14, .ref bv), (bv, 0, 3, .int pc), (bv, 0, 0, .ref pa)] ∧ jMc (dC, dI) G0 H0 [(pa, 196, n_pa, ca 0, fv)] ∧ 0 ≤ pc.toInt ∧ pc.toInt ≤ n_pa ∧ n_pa ≤ 1000)) (va_Qi (S := Unit) (fun r u => (r = 0 ∨ r = 1) ∧ (0 ≤ r.toInt ∧ r.toInt ≤ 1 ∧ (r.toInt = 1 → pc.toInt ≤ 4 ∧ jDg fv pc.toInt ∧ jNm fv (pc.toInt).toNat ≤ 3000))) (fun u t => jRt (dC, dI) B base G0 EX14_isLengthSoFar H0 [] t.heap) (jA base)) 0 0 (jA base) := by
  refine Met.ofW (cc := cX14_isLengthSoFar) (maxL := 5) (ret := (some .boolean)) (by decide) rfl ?_
  intro p e s m args below meth c s₁ Bd hml hv
  obtain ⟨rfl, hH0, hX, hG, hg_r0, hz_a1, hg_bv, hg_pa, hP0, hM0, hp0, hp1, hp2⟩ := hv
  have hK := hG.1
  have hx := Bd.exec
  have hb := Bd.bytes
  have hr := Bd.returns
  have hts := atoms_spec (ws := (jw yX14_isLengthSoFar cX14_isLengthSoFar 5 (some .boolean))) Bd.pre
  have htw : ∀ w ∈ jWl, w.before _ s = true := fun w h => hts w (List.mem_cons_of_mem _ h)
  have hown : s.vm.findClass RX14 = some m.cls := findClass_of_methodNamed Bd.named
  have hlocks := Bd.notSynchronized
  obtain ⟨Q, hQ⟩ : ∃ Q, Q = MQ below (va_Qi (S := Unit) (fun r u => (r = 0 ∨ r = 1) ∧ (0 ≤ r.toInt ∧ r.toInt ≤ 1 ∧ (r.toInt = 1 → pc.toInt ≤ 4 ∧ jDg fv pc.toInt ∧ jNm fv (pc.toInt).toNat ≤ 3000))) (fun u t => jRt (dC, dI) B base G0 EX14_isLengthSoFar H0 [] t.heap) (jA base)) ([.ref r0, .int a1] : List Value).toArray s 0 0 (jA base) := ⟨_, rfl⟩
  rw [← hQ]
  have hl := lv_entry ([.ref r0, .int a1]) (n := 5) (Nat.le_of_ble_eq_true rfl)
  rw [lg_entry_eq]
  generalize (lg_sl ([.ref r0, .int a1]) ++ List.replicate (5 - (lg_sl ([.ref r0, .int a1])).length) Slot.unset).toArray = ls at hl ⊢
  have hl : lv_has ls 5 [(0, .ref r0), (1, .int a1)] := hl
  generalize hR : (headSpec (jw yX14_isLengthSoFar cX14_isLengthSoFar 5 (some .boolean)) ({ frames := 4, cells := 0, slots := 0, locals := 106 })).room = R
  subst hH0
  have hh : jSt (dC, dI) B base G0 G0 EX14_isLengthSoFar s.heap 0 0 [(r0, 16, 14, .ref bv), (bv, 0, 3, .int pc), (bv, 0, 0, .ref pa)] [(pa, 196, n_pa, ca 0, fv)] [] s.heap [] := jSt.start hX hP0 hM0 jIs.nil
  clear hX hP0
  have hk0 : (0 : Int32).toInt = 0 := by decide
  have hk1 : (1 : Int32).toInt = 1 := by decide
  have hk4 : (4 : Int32).toInt = 4 := by decide
  have hk10 : (10 : Int32).toInt = 10 := by decide
  have hk48 : (48 : Int32).toInt = 48 := by decide
  have hk3000 : (3000 : Int32).toInt = 3000 := by decide
  have hly_16_14 := htw (u_lay RX14 TX14 14) (jWc_wsX140 _ (u_in_lay (by decide)))
  have hlk_30 := (htw (.fieldLink RX14 30 "ProofServerModel" "value" "Ljava/lang/StringBuilder;") (jWr_11 _ (List.mem_of_getElem? (i := 2) rfl)))
  have hrg_a1 := jb_rng a1
  refine lv_aload_n hx hb dX14_isLengthSoFar_0 rfl (lv_at hl 0 rfl) ?_
  refine j7_read hx hb hown hK (C := RX14) (T := TX14) (N := 74) rfl hly_16_14 hlk_30 (hh.at 0 rfl) dX14_isLengthSoFar_1 ?_
  refine va_calli (A0 := jA base) (H0 := s.heap) (va_runV (As := []) (rest := []) ⟨hx, hb, hml, hown, hts⟩ (uJ4_length_8abf5 l dC dI ca base B hB hAp hB0 G0 s.heap bv pc) (cwV 0 hts (jgV (jWr_48 _ (List.mem_of_getElem? (i := 17) rfl)) (jWr_48 _ (List.mem_of_getElem? (i := 18) rfl)) (jWr_48 _ (List.mem_of_getElem? (i := 19) rfl)) (jWr_11 _ (List.mem_of_getElem? (i := 0) rfl)) (jWr_48 _ (List.mem_of_getElem? (i := 20) rfl))) rfl rfl rfl (by decide +kernel) ⟨by rw [← hR]; exact Nat.le_of_ble_eq_true rfl, by rw [← hR]; exact Nat.le_of_ble_eq_true rfl⟩) ⟨fun a U g mk q => by obtain ⟨q0, q1, q2, qK, q10, q11, q12⟩ := q; exact ⟨q0, q1, q2, jG.calling g mk a qK, q10, q11, q12⟩, hh.recv (C := RJ4) (T := TJ4) (N := 4) hB0 rfl (by decide) hg_bv hK, fun U hU hW => ⟨rfl, hU, hh.2.1, hG.step hW hU hh.1, hg_bv, (hh.2.2.1.sub (L1 := [(bv, 0, 3, .int pc)]) [1] rfl), trivial⟩⟩ rfl rfl hl.1 rfl (lv_room (Nat.le_of_ble_eq_true rfl)) dX14_isLengthSoFar_4 ⟨Nat.zero_le _, Nat.zero_le _⟩) hh.1 (fun q _ h => h) (fun q h => h) (fun r_2 u_1 t_1 H_1 locs_1 ht_1 hvm_1 hr_2 hb_1 hz_1 hk_1 hS_1 => ?_)
  rw [ht_1] at hb_1
  obtain ⟨hb_11, hb_12, hb_13, hb_14, hb_15⟩ := hb_1
  have hh_1 : jSt (dC, dI) B base G0 G0 EX14_isLengthSoFar s.heap 0 0 [(r0, 16, 14, .ref bv), (bv, 0, 3, .int pc), (bv, 0, 0, .ref pa)] [(pa, 196, n_pa, ca 0, fv)] [] H_1 locs_1 := ((hh.call hb_11 hb_12 hb_13 hb_14 hS_1 rfl (L1 := [(r0, 16, 14, .ref bv), (bv, 0, 3, .int pc), (bv, 0, 0, .ref pa)]) [0, 1, 2] rfl rfl (M1 := [(pa, 196, n_pa, ca 0, fv)]) [0] rfl rfl (I1 := []) [] rfl rfl).more hb_15)
  clear hh ht_1 hvm_1 hz_1 hk_1 hS_1 hb_11 hb_12 hb_13 hb_14 hb_15
  refine lv_istore_n (lv' := [(2, .int r_2), (0, .ref r0), (1, .int a1)]) hx hb dX14_isLengthSoFar_7 rfl hl (by decide) rfl (fun ls hl => ?_)
  refine lv_iload_n hx hb dX14_isLengthSoFar_8 rfl (lv_at hl 0 rfl) ?_
  refine lv_iconst (v := 4) hx hb dX14_isLengthSoFar_9 (by decide) ?_
  refine lv_icmp_gt (tgt := 21) hx hb dX14_isLengthSoFar_10 (by decide) (fun c_3 => ?_) (fun c_3 => ?_)
  · skip
    have c_3' : r_2.toInt > 4 := jb_gt (rfl) ((by decide)) c_3
    refine lv_iconst (v := 0) hx hb dX14_isLengthSoFar_21 (by decide) ?_
    rw [hQ]
    exact W.zret (v := 0) hx hb hr (jb_nz (Or.inl rfl)) (fun t ht hW => ⟨⟨0, (), rfl, ⟨(Or.inl rfl), by refine ⟨by omega, by omega, fun h9 => ?_⟩; omega⟩, hh_1.rt (M1 := []) [] rfl ht⟩, by rw [ht]; try exact hh_1.1.1, fun q h9 hq => by rw [ht]; try exact hh_1.1.2.1 q h9 hq⟩) hh_1.1.2.2 dX14_isLengthSoFar_22
  · skip
    have c_3' : r_2.toInt ≤ 4 := jb_gt_n (rfl) ((by decide)) c_3
    refine lv_iload_n hx hb dX14_isLengthSoFar_13 rfl (lv_at hl 2 rfl) ?_
    refine lv_if_eq (tgt := 23) hx hb dX14_isLengthSoFar_14 (by decide) (fun c_4 => ?_) (fun c_4 => ?_)
    · skip
      have c_4' : a1.toInt = 0 := jb_eq (rfl) ((by decide)) c_4
      refine lv_iconst (v := 0) hx hb dX14_isLengthSoFar_23 (by decide) ?_
      refine lv_istore_n (lv' := [(3, .int 0), (2, .int r_2), (0, .ref r0), (1, .int a1)]) hx hb dX14_isLengthSoFar_24 rfl hl (by decide) rfl (fun ls hl => ?_)
      refine lv_iconst (v := 0) hx hb dX14_isLengthSoFar_25 (by decide) ?_
      refine lv_istore (lv' := [(4, .int 0), (3, .int 0), (2, .int r_2), (0, .ref r0), (1, .int a1)]) hx hb dX14_isLengthSoFar_26 hl (by decide) rfl (fun ls hl => ?_)
      have L28 : ∀ (N : Nat) (v3_5 : Int32) (v4_5 : Int32) (H_5 : Heap) (locs_5 : List Loc), jSt (dC, dI) B base G0 G0 EX14_isLengthSoFar s.heap 0 0 [(r0, 16, 14, .ref bv), (bv, 0, 3, .int pc), (bv, 0, 0, .ref pa)] [(pa, 196, n_pa, ca 0, fv)] [] H_5 locs_5 → (0 ≤ v4_5.toInt ∧ v4_5.toInt ≤ pc.toInt ∧ v3_5.toInt = jNm fv (v4_5.toInt).toNat ∧ 0 ≤ v3_5.toInt ∧ (v4_5.toInt ≤ 0 → v3_5.toInt ≤ 0) ∧ (v4_5.toInt ≤ 1 → v3_5.toInt ≤ 9) ∧ (v4_5.toInt ≤ 2 → v3_5.toInt ≤ 99) ∧ (v4_5.toInt ≤ 3 → v3_5.toInt ≤ 999) ∧ v3_5.toInt ≤ 9999 ∧ jDg fv v4_5.toInt) → (pc.toInt - v4_5.toInt : Int) < N → ∀ ls : Array Slot, lv_has ls 5 [(0, .ref r0), (1, .int a1), (2, .int r_2), (3, .int v3_5), (4, .int v4_5)] → W p l e R s m ([.ref r0, .int a1] : List Value).toArray below meth c H_5 locs_5 0 0 Q (F0 m 28 ls []) := by
        intro N
        induction N with
        | zero => intro v3_5 v4_5 H_5 locs_5 hh_5  hi_5 hm; exact absurd hm (by omega)
        | succ N L28 =>
          intro v3_5 v4_5 H_5 locs_5 hh_5  hi_5 hm_5 ls hl
          obtain ⟨hi_5_0, hi_5_1, hi_5_2, hi_5_3, hi_5_4, hi_5_5, hi_5_6, hi_5_7, hi_5_8, hi_5_9⟩ := hi_5
          refine lv_iload hx hb dX14_isLengthSoFar_28 (lv_at hl 4 rfl) ?_
          refine lv_iload_n hx hb dX14_isLengthSoFar_30 rfl (lv_at hl 2 rfl) ?_
          refine lv_icmp_ge (tgt := 75) hx hb dX14_isLengthSoFar_31 (by decide) (fun c_6 => ?_) (fun c_6 => ?_)
          · skip
            have c_6' : v4_5.toInt ≥ r_2.toInt := jb_ge (rfl) (rfl) c_6
            refine lv_iload_n hx hb dX14_isLengthSoFar_75 rfl (lv_at hl 3 rfl) ?_
            refine lv_sipush (v := 3000) hx hb dX14_isLengthSoFar_76 (by decide) ?_
            refine lv_icmp_gt (tgt := 86) hx hb dX14_isLengthSoFar_79 (by decide) (fun c_7 => ?_) (fun c_7 => ?_)
            · skip
              have c_7' : v3_5.toInt > 3000 := jb_gt (rfl) ((by decide)) c_7
              refine lv_iconst (v := 0) hx hb dX14_isLengthSoFar_86 (by decide) ?_
              rw [hQ]
              exact W.zret (v := 0) hx hb hr (jb_nz (Or.inl rfl)) (fun t ht hW => ⟨⟨0, (), rfl, ⟨(Or.inl rfl), by refine ⟨by omega, by omega, fun h9 => ?_⟩; omega⟩, hh_5.rt (M1 := []) [] rfl ht⟩, by rw [ht]; try exact hh_5.1.1, fun q h9 hq => by rw [ht]; try exact hh_5.1.2.1 q h9 hq⟩) hh_5.1.2.2 dX14_isLengthSoFar_87
            · skip
              have c_7' : v3_5.toInt ≤ 3000 := jb_gt_n (rfl) ((by decide)) c_7
              refine lv_iconst (v := 1) hx hb dX14_isLengthSoFar_82 (by decide) ?_
              refine lv_goto (tgt := 87) hx hb dX14_isLengthSoFar_83 (by decide) ?_
              rw [hQ]
              exact W.zret (v := 1) hx hb hr (jb_nz (Or.inr rfl)) (fun t ht hW => ⟨⟨1, (), rfl, ⟨(Or.inr rfl), by refine ⟨by omega, by omega, fun _ => ⟨by omega, ?_, ?_⟩⟩; (rw [show pc.toInt = v4_5.toInt by omega]; exact hi_5_9); (rw [show pc.toInt = v4_5.toInt by omega, ← hi_5_2]; omega)⟩, hh_5.rt (M1 := []) [] rfl ht⟩, by rw [ht]; try exact hh_5.1.1, fun q h9 hq => by rw [ht]; try exact hh_5.1.2.1 q h9 hq⟩) hh_5.1.2.2 dX14_isLengthSoFar_87
          · skip
            have c_6' : v4_5.toInt < r_2.toInt := jb_ge_n (rfl) (rfl) c_6
            refine lv_aload_n hx hb dX14_isLengthSoFar_34 rfl (lv_at hl 0 rfl) ?_
            refine j7_read hx hb hown hK (C := RX14) (T := TX14) (N := 74) rfl hly_16_14 hlk_30 (hh_5.at 0 rfl) dX14_isLengthSoFar_35 ?_
            refine lv_iload hx hb dX14_isLengthSoFar_38 (lv_at hl 4 rfl) ?_
            refine va_calli (A0 := jA base) (H0 := s.heap) (va_runV (As := [.int v4_5]) (rest := []) ⟨hx, hb, hml, hown, hts⟩ (uJ4_charAt_5068e l dC dI ca base B hB hAp hB0 hB196 G0 H_5 bv v4_5 pc pa n_pa fv) (cwV 1 hts (jgV (jWr_49 _ (List.mem_of_getElem? (i := 2) rfl)) (jWr_49 _ (List.mem_of_getElem? (i := 3) rfl)) (jWr_49 _ (List.mem_of_getElem? (i := 4) rfl)) (jWr_11 _ (List.mem_of_getElem? (i := 0) rfl)) (jWr_49 _ (List.mem_of_getElem? (i := 5) rfl))) rfl rfl rfl (by decide +kernel) ⟨by rw [← hR]; exact Nat.le_of_ble_eq_true rfl, by rw [← hR]; exact Nat.le_of_ble_eq_true rfl⟩) ⟨fun a U g mk q => by obtain ⟨q0, q1, q2, qK, q10, q11, q12, q13, q14⟩ := q; exact ⟨q0, q1, q2, jG.calling g mk a qK, q10, q11, q12, q13, q14⟩, hh_5.recv (C := RJ4) (T := TJ4) (N := 4) hB0 rfl (by decide) hg_bv hK, fun U hU hW => ⟨rfl, hU, hh_5.2.1, hG.step hW hU hh_5.1, hg_bv, hg_pa, (hh_5.2.2.1.sub (L1 := [(bv, 0, 3, .int pc), (bv, 0, 0, .ref pa)]) [1, 2] rfl), (hh_5.2.2.2.2.2.2.2.1.sub (L1 := [(pa, 196, n_pa, ca 0, fv)]) [0] rfl), by first | omega | (refine ⟨?_, ?_, ?_, ?_⟩ <;> (first | omega | rfl | assumption | decide | exact Or.inl rfl | exact Or.inr rfl | (simp only; omega)))⟩⟩ rfl rfl hl.1 rfl (lv_room (Nat.le_of_ble_eq_true rfl)) dX14_isLengthSoFar_40 ⟨Nat.zero_le _, Nat.zero_le _⟩) hh_5.1 (fun q _ h => h) (fun q h => h) (fun r_9 u_8 t_8 H_8 locs_8 ht_8 hvm_8 hr_9 hb_8 hz_8 hk_8 hS_8 => ?_)
            rw [ht_8] at hb_8
            obtain ⟨hb_81, hb_82, hb_83, hb_84, hb_85⟩ := hb_8
            have hh_8 : jSt (dC, dI) B base G0 G0 EX14_isLengthSoFar s.heap 0 0 [(r0, 16, 14, .ref bv), (bv, 0, 3, .int pc), (bv, 0, 0, .ref pa)] [(pa, 196, n_pa, ca 0, fv)] [] H_8 locs_8 := ((hh_5.call hb_81 hb_82 hb_83 hb_84 hS_8 rfl (L1 := [(r0, 16, 14, .ref bv), (bv, 0, 3, .int pc), (bv, 0, 0, .ref pa)]) [0, 1, 2] rfl rfl (M1 := [(pa, 196, n_pa, ca 0, fv)]) [0] rfl rfl (I1 := []) [] rfl rfl).more hb_85)
            clear hh_5 ht_8 hvm_8 hz_8 hk_8 hS_8 hb_81 hb_82 hb_83 hb_84 hb_85
            obtain ⟨hr_9_0, hr_9_1, hr_9_2⟩ := hr_9
            refine va_calli (A0 := jA base) (H0 := s.heap) (va_runS (As := [.int r_9]) (rest := []) ⟨hx, hb, hml, hown, hts⟩ (uX14_isDigit l dC dI ca base B hB hAp G0 H_8 r_9) (va_cwS 1 hts (jgS (jWr_49 _ (List.mem_of_getElem? (i := 18) rfl)) (jWr_49 _ (List.mem_of_getElem? (i := 19) rfl)) (jWr_1 _ (List.mem_of_getElem? (i := 5) rfl)) (jWr_49 _ (List.mem_of_getElem? (i := 20) rfl))) rfl rfl rfl (by decide +kernel) ⟨by rw [← hR]; exact Nat.le_of_ble_eq_true rfl, by rw [← hR]; exact Nat.le_of_ble_eq_true rfl⟩) ⟨fun a U g mk q => by obtain ⟨q0, q1, q2, qK, q10, q11⟩ := q; exact ⟨q0, q1, q2, jG.calling g mk a qK, q10, q11⟩, fun U hU hW => ⟨rfl, hU, hh_8.2.1, hG.step hW hU hh_8.1, jP.nil, trivial⟩⟩ rfl rfl hl.1 rfl (lv_room (Nat.le_of_ble_eq_true rfl)) dX14_isLengthSoFar_43 ⟨Nat.zero_le _, Nat.zero_le _⟩) hh_8.1 (fun q _ h => h) (fun q h => h) (fun r_11 u_10 t_10 H_10 locs_10 ht_10 hvm_10 hr_11 hb_10 hz_10 hk_10 hS_10 => ?_)
            rw [ht_10] at hb_10
            obtain ⟨hb_101, hb_102, hb_103, hb_104, hb_105⟩ := hb_10
            have hh_10 : jSt (dC, dI) B base G0 G0 EX14_isLengthSoFar s.heap 0 0 [(r0, 16, 14, .ref bv), (bv, 0, 3, .int pc), (bv, 0, 0, .ref pa)] [(pa, 196, n_pa, ca 0, fv)] [] H_10 locs_10 := ((hh_8.call hb_101 hb_102 hb_103 hb_104 hS_10 rfl (L1 := [(r0, 16, 14, .ref bv), (bv, 0, 3, .int pc), (bv, 0, 0, .ref pa)]) [0, 1, 2] rfl rfl (M1 := [(pa, 196, n_pa, ca 0, fv)]) [0] rfl rfl (I1 := []) [] rfl rfl).more hb_105)
            clear hh_8 ht_10 hvm_10 hz_10 hk_10 hS_10 hb_101 hb_102 hb_103 hb_104 hb_105
            obtain ⟨hr_11b, hr_11p⟩ := hr_11
            obtain ⟨hr_11p_0, hr_11p_1⟩ := hr_11p
            have hr_11' := jb_01 hr_11b
            refine lv_if_ne (tgt := 51) hx hb dX14_isLengthSoFar_46 (by decide) (fun c_12 => ?_) (fun c_12 => ?_)
            · skip
              have c_12' : r_11.toInt ≠ 0 := jb_ne (rfl) ((by decide)) c_12
              refine lv_bipush (v := 10) hx hb dX14_isLengthSoFar_51 (by decide) ?_
              refine lv_iload_n hx hb dX14_isLengthSoFar_53 rfl (lv_at hl 3 rfl) ?_
              refine lv_imul hx hb dX14_isLengthSoFar_54 ?_
              refine lv_topi (fun z_13 ez_13 => ?_)
              have hz_13 : z_13.toInt = 10 * v3_5.toInt := by rw [ez_13]; exact jb_imul2 ((by decide)) (rfl) (by omega)
              refine lv_aload_n hx hb dX14_isLengthSoFar_55 rfl (lv_at hl 0 rfl) ?_
              refine j7_read hx hb hown hK (C := RX14) (T := TX14) (N := 74) rfl hly_16_14 hlk_30 (hh_10.at 0 rfl) dX14_isLengthSoFar_56 ?_
              refine lv_iload hx hb dX14_isLengthSoFar_59 (lv_at hl 4 rfl) ?_
              refine va_calli (A0 := jA base) (H0 := s.heap) (va_runV (As := [.int v4_5]) (rest := [.int z_13]) ⟨hx, hb, hml, hown, hts⟩ (uJ4_charAt_5068e l dC dI ca base B hB hAp hB0 hB196 G0 H_10 bv v4_5 pc pa n_pa fv) (cwV 1 hts (jgV (jWr_49 _ (List.mem_of_getElem? (i := 2) rfl)) (jWr_49 _ (List.mem_of_getElem? (i := 3) rfl)) (jWr_49 _ (List.mem_of_getElem? (i := 4) rfl)) (jWr_11 _ (List.mem_of_getElem? (i := 0) rfl)) (jWr_49 _ (List.mem_of_getElem? (i := 5) rfl))) rfl rfl rfl (by decide +kernel) ⟨by rw [← hR]; exact Nat.le_of_ble_eq_true rfl, by rw [← hR]; exact Nat.le_of_ble_eq_true rfl⟩) ⟨fun a U g mk q => by obtain ⟨q0, q1, q2, qK, q10, q11, q12, q13, q14⟩ := q; exact ⟨q0, q1, q2, jG.calling g mk a qK, q10, q11, q12, q13, q14⟩, hh_10.recv (C := RJ4) (T := TJ4) (N := 4) hB0 rfl (by decide) hg_bv hK, fun U hU hW => ⟨rfl, hU, hh_10.2.1, hG.step hW hU hh_10.1, hg_bv, hg_pa, (hh_10.2.2.1.sub (L1 := [(bv, 0, 3, .int pc), (bv, 0, 0, .ref pa)]) [1, 2] rfl), (hh_10.2.2.2.2.2.2.2.1.sub (L1 := [(pa, 196, n_pa, ca 0, fv)]) [0] rfl), by first | omega | (refine ⟨?_, ?_, ?_, ?_⟩ <;> (first | omega | rfl | assumption | decide | exact Or.inl rfl | exact Or.inr rfl | (simp only; omega)))⟩⟩ rfl rfl hl.1 rfl (lv_room (Nat.le_of_ble_eq_true rfl)) dX14_isLengthSoFar_61 ⟨Nat.zero_le _, Nat.zero_le _⟩) hh_10.1 (fun q _ h => h) (fun q h => h) (fun r_15 u_14 t_14 H_14 locs_14 ht_14 hvm_14 hr_15 hb_14 hz_14 hk_14 hS_14 => ?_)
              rw [ht_14] at hb_14
              obtain ⟨hb_141, hb_142, hb_143, hb_144, hb_145⟩ := hb_14
              have hh_14 : jSt (dC, dI) B base G0 G0 EX14_isLengthSoFar s.heap 0 0 [(r0, 16, 14, .ref bv), (bv, 0, 3, .int pc), (bv, 0, 0, .ref pa)] [(pa, 196, n_pa, ca 0, fv)] [] H_14 locs_14 := ((hh_10.call hb_141 hb_142 hb_143 hb_144 hS_14 rfl (L1 := [(r0, 16, 14, .ref bv), (bv, 0, 3, .int pc), (bv, 0, 0, .ref pa)]) [0, 1, 2] rfl rfl (M1 := [(pa, 196, n_pa, ca 0, fv)]) [0] rfl rfl (I1 := []) [] rfl rfl).more hb_145)
              clear hh_10 ht_14 hvm_14 hz_14 hk_14 hS_14 hb_141 hb_142 hb_143 hb_144 hb_145
              obtain ⟨hr_15_0, hr_15_1, hr_15_2⟩ := hr_15
              refine lv_iadd hx hb dX14_isLengthSoFar_64 ?_
              refine lv_topi (fun z_16 ez_16 => ?_)
              have hz_16 : z_16.toInt = z_13.toInt + r_15.toInt := by rw [ez_16]; exact jb_iadd2 (rfl) (rfl) (by omega)
              refine lv_bipush (v := 48) hx hb dX14_isLengthSoFar_65 (by decide) ?_
              refine lv_isub hx hb dX14_isLengthSoFar_67 ?_
              refine lv_topi (fun z_17 ez_17 => ?_)
              have hz_17 : z_17.toInt = z_16.toInt - 48 := by rw [ez_17]; exact jb_isub2 (rfl) ((by decide)) (by omega)
              refine lv_istore_n (lv' := [(3, .int z_17), (0, .ref r0), (1, .int a1), (2, .int r_2), (4, .int v4_5)]) hx hb dX14_isLengthSoFar_68 rfl hl (by decide) rfl (fun ls hl => ?_)
              obtain ⟨z_18, ez_18⟩ : ∃ y : Int32, y = v4_5 + 1 := ⟨_, rfl⟩
              refine lv_iinc (v := z_18) (lv' := [(4, .int z_18), (3, .int z_17), (0, .ref r0), (1, .int a1), (2, .int r_2)]) hx hb dX14_isLengthSoFar_69 hl (k := 4) rfl (by rw [ez_18]; rfl) (by decide) rfl (fun ls hl => ?_)
              have hz_18 : z_18.toInt = v4_5.toInt + 1 := by rw [ez_18]; exact jb_iadd2 (rfl) (by decide) (by omega)
              refine lv_goto (tgt := 28) hx hb dX14_isLengthSoFar_72 (by decide) ?_
              exact L28 z_17 z_18 _ _ hh_14 (by have hd0 := hr_9_0; refine ⟨by omega, by omega, jNm_s hi_5_2 (by omega) hr_15_2 (by omega) (by omega), by omega, by omega, by omega, by omega, by omega, by omega, hi_5_9.snoc hr_9_2 (by omega) (by omega) (by omega)⟩) (by omega) _ (lv_sub hl [2, 3, 4, 1, 0] rfl)
            · skip
              have c_12' : r_11.toInt = 0 := jb_ne_n (rfl) ((by decide)) c_12
              refine lv_iconst (v := 0) hx hb dX14_isLengthSoFar_49 (by decide) ?_
              rw [hQ]
              exact W.zret (v := 0) hx hb hr (jb_nz (Or.inl rfl)) (fun t ht hW => ⟨⟨0, (), rfl, ⟨(Or.inl rfl), by refine ⟨by omega, by omega, fun h9 => ?_⟩; omega⟩, hh_10.rt (M1 := []) [] rfl ht⟩, by rw [ht]; try exact hh_10.1.1, fun q h9 hq => by rw [ht]; try exact hh_10.1.2.1 q h9 hq⟩) hh_10.1.2.2 dX14_isLengthSoFar_50
      exact L28 (pc.toInt - (0 : Int32).toInt : Int).toNat.succ 0 0 _ _ hh_1 (by refine ⟨by omega, by omega, by rw [hk0]; rfl, by omega, by omega, by omega, by omega, by omega, by omega, ?_⟩; rw [hk0]; exact fun i h0 h1 => by omega) (by omega) _ (lv_sub hl [3, 4, 2, 1, 0] rfl)
    · skip
      have c_4' : a1.toInt ≠ 0 := jb_eq_n (rfl) ((by decide)) c_4
      refine lv_iload_n hx hb dX14_isLengthSoFar_17 rfl (lv_at hl 0 rfl) ?_
      refine lv_if_ne (tgt := 23) hx hb dX14_isLengthSoFar_18 (by decide) (fun c_19 => ?_) (fun c_19 => ?_)
      · skip
        have c_19' : r_2.toInt ≠ 0 := jb_ne (rfl) ((by decide)) c_19
        refine lv_iconst (v := 0) hx hb dX14_isLengthSoFar_23 (by decide) ?_
        refine lv_istore_n (lv' := [(3, .int 0), (2, .int r_2), (0, .ref r0), (1, .int a1)]) hx hb dX14_isLengthSoFar_24 rfl hl (by decide) rfl (fun ls hl => ?_)
        refine lv_iconst (v := 0) hx hb dX14_isLengthSoFar_25 (by decide) ?_
        refine lv_istore (lv' := [(4, .int 0), (3, .int 0), (2, .int r_2), (0, .ref r0), (1, .int a1)]) hx hb dX14_isLengthSoFar_26 hl (by decide) rfl (fun ls hl => ?_)
        have L28 : ∀ (N : Nat) (v3_20 : Int32) (v4_20 : Int32) (H_20 : Heap) (locs_20 : List Loc), jSt (dC, dI) B base G0 G0 EX14_isLengthSoFar s.heap 0 0 [(r0, 16, 14, .ref bv), (bv, 0, 3, .int pc), (bv, 0, 0, .ref pa)] [(pa, 196, n_pa, ca 0, fv)] [] H_20 locs_20 → (0 ≤ v4_20.toInt ∧ v4_20.toInt ≤ pc.toInt ∧ v3_20.toInt = jNm fv (v4_20.toInt).toNat ∧ 0 ≤ v3_20.toInt ∧ (v4_20.toInt ≤ 0 → v3_20.toInt ≤ 0) ∧ (v4_20.toInt ≤ 1 → v3_20.toInt ≤ 9) ∧ (v4_20.toInt ≤ 2 → v3_20.toInt ≤ 99) ∧ (v4_20.toInt ≤ 3 → v3_20.toInt ≤ 999) ∧ v3_20.toInt ≤ 9999 ∧ jDg fv v4_20.toInt) → (pc.toInt - v4_20.toInt : Int) < N → ∀ ls : Array Slot, lv_has ls 5 [(0, .ref r0), (1, .int a1), (2, .int r_2), (3, .int v3_20), (4, .int v4_20)] → W p l e R s m ([.ref r0, .int a1] : List Value).toArray below meth c H_20 locs_20 0 0 Q (F0 m 28 ls []) := by
          intro N
          induction N with
          | zero => intro v3_20 v4_20 H_20 locs_20 hh_20  hi_20 hm; exact absurd hm (by omega)
          | succ N L28 =>
            intro v3_20 v4_20 H_20 locs_20 hh_20  hi_20 hm_20 ls hl
            obtain ⟨hi_20_0, hi_20_1, hi_20_2, hi_20_3, hi_20_4, hi_20_5, hi_20_6, hi_20_7, hi_20_8, hi_20_9⟩ := hi_20
            refine lv_iload hx hb dX14_isLengthSoFar_28 (lv_at hl 4 rfl) ?_
            refine lv_iload_n hx hb dX14_isLengthSoFar_30 rfl (lv_at hl 2 rfl) ?_
            refine lv_icmp_ge (tgt := 75) hx hb dX14_isLengthSoFar_31 (by decide) (fun c_21 => ?_) (fun c_21 => ?_)
            · skip
              have c_21' : v4_20.toInt ≥ r_2.toInt := jb_ge (rfl) (rfl) c_21
              refine lv_iload_n hx hb dX14_isLengthSoFar_75 rfl (lv_at hl 3 rfl) ?_
              refine lv_sipush (v := 3000) hx hb dX14_isLengthSoFar_76 (by decide) ?_
              refine lv_icmp_gt (tgt := 86) hx hb dX14_isLengthSoFar_79 (by decide) (fun c_22 => ?_) (fun c_22 => ?_)
              · skip
                have c_22' : v3_20.toInt > 3000 := jb_gt (rfl) ((by decide)) c_22
                refine lv_iconst (v := 0) hx hb dX14_isLengthSoFar_86 (by decide) ?_
                rw [hQ]
                exact W.zret (v := 0) hx hb hr (jb_nz (Or.inl rfl)) (fun t ht hW => ⟨⟨0, (), rfl, ⟨(Or.inl rfl), by refine ⟨by omega, by omega, fun h9 => ?_⟩; omega⟩, hh_20.rt (M1 := []) [] rfl ht⟩, by rw [ht]; try exact hh_20.1.1, fun q h9 hq => by rw [ht]; try exact hh_20.1.2.1 q h9 hq⟩) hh_20.1.2.2 dX14_isLengthSoFar_87
              · skip
                have c_22' : v3_20.toInt ≤ 3000 := jb_gt_n (rfl) ((by decide)) c_22
                refine lv_iconst (v := 1) hx hb dX14_isLengthSoFar_82 (by decide) ?_
                refine lv_goto (tgt := 87) hx hb dX14_isLengthSoFar_83 (by decide) ?_
                rw [hQ]
                exact W.zret (v := 1) hx hb hr (jb_nz (Or.inr rfl)) (fun t ht hW => ⟨⟨1, (), rfl, ⟨(Or.inr rfl), by refine ⟨by omega, by omega, fun _ => ⟨by omega, ?_, ?_⟩⟩; (rw [show pc.toInt = v4_20.toInt by omega]; exact hi_20_9); (rw [show pc.toInt = v4_20.toInt by omega, ← hi_20_2]; omega)⟩, hh_20.rt (M1 := []) [] rfl ht⟩, by rw [ht]; try exact hh_20.1.1, fun q h9 hq => by rw [ht]; try exact hh_20.1.2.1 q h9 hq⟩) hh_20.1.2.2 dX14_isLengthSoFar_87
            · skip
              have c_21' : v4_20.toInt < r_2.toInt := jb_ge_n (rfl) (rfl) c_21
              refine lv_aload_n hx hb dX14_isLengthSoFar_34 rfl (lv_at hl 0 rfl) ?_
              refine j7_read hx hb hown hK (C := RX14) (T := TX14) (N := 74) rfl hly_16_14 hlk_30 (hh_20.at 0 rfl) dX14_isLengthSoFar_35 ?_
              refine lv_iload hx hb dX14_isLengthSoFar_38 (lv_at hl 4 rfl) ?_
              refine va_calli (A0 := jA base) (H0 := s.heap) (va_runV (As := [.int v4_20]) (rest := []) ⟨hx, hb, hml, hown, hts⟩ (uJ4_charAt_5068e l dC dI ca base B hB hAp hB0 hB196 G0 H_20 bv v4_20 pc pa n_pa fv) (cwV 1 hts (jgV (jWr_49 _ (List.mem_of_getElem? (i := 2) rfl)) (jWr_49 _ (List.mem_of_getElem? (i := 3) rfl)) (jWr_49 _ (List.mem_of_getElem? (i := 4) rfl)) (jWr_11 _ (List.mem_of_getElem? (i := 0) rfl)) (jWr_49 _ (List.mem_of_getElem? (i := 5) rfl))) rfl rfl rfl (by decide +kernel) ⟨by rw [← hR]; exact Nat.le_of_ble_eq_true rfl, by rw [← hR]; exact Nat.le_of_ble_eq_true rfl⟩) ⟨fun a U g mk q => by obtain ⟨q0, q1, q2, qK, q10, q11, q12, q13, q14⟩ := q; exact ⟨q0, q1, q2, jG.calling g mk a qK, q10, q11, q12, q13, q14⟩, hh_20.recv (C := RJ4) (T := TJ4) (N := 4) hB0 rfl (by decide) hg_bv hK, fun U hU hW => ⟨rfl, hU, hh_20.2.1, hG.step hW hU hh_20.1, hg_bv, hg_pa, (hh_20.2.2.1.sub (L1 := [(bv, 0, 3, .int pc), (bv, 0, 0, .ref pa)]) [1, 2] rfl), (hh_20.2.2.2.2.2.2.2.1.sub (L1 := [(pa, 196, n_pa, ca 0, fv)]) [0] rfl), by first | omega | (refine ⟨?_, ?_, ?_, ?_⟩ <;> (first | omega | rfl | assumption | decide | exact Or.inl rfl | exact Or.inr rfl | (simp only; omega)))⟩⟩ rfl rfl hl.1 rfl (lv_room (Nat.le_of_ble_eq_true rfl)) dX14_isLengthSoFar_40 ⟨Nat.zero_le _, Nat.zero_le _⟩) hh_20.1 (fun q _ h => h) (fun q h => h) (fun r_24 u_23 t_23 H_23 locs_23 ht_23 hvm_23 hr_24 hb_23 hz_23 hk_23 hS_23 => ?_)
              rw [ht_23] at hb_23
              obtain ⟨hb_231, hb_232, hb_233, hb_234, hb_235⟩ := hb_23
              have hh_23 : jSt (dC, dI) B base G0 G0 EX14_isLengthSoFar s.heap 0 0 [(r0, 16, 14, .ref bv), (bv, 0, 3, .int pc), (bv, 0, 0, .ref pa)] [(pa, 196, n_pa, ca 0, fv)] [] H_23 locs_23 := ((hh_20.call hb_231 hb_232 hb_233 hb_234 hS_23 rfl (L1 := [(r0, 16, 14, .ref bv), (bv, 0, 3, .int pc), (bv, 0, 0, .ref pa)]) [0, 1, 2] rfl rfl (M1 := [(pa, 196, n_pa, ca 0, fv)]) [0] rfl rfl (I1 := []) [] rfl rfl).more hb_235)
              clear hh_20 ht_23 hvm_23 hz_23 hk_23 hS_23 hb_231 hb_232 hb_233 hb_234 hb_235
              obtain ⟨hr_24_0, hr_24_1, hr_24_2⟩ := hr_24
              refine va_calli (A0 := jA base) (H0 := s.heap) (va_runS (As := [.int r_24]) (rest := []) ⟨hx, hb, hml, hown, hts⟩ (uX14_isDigit l dC dI ca base B hB hAp G0 H_23 r_24) (va_cwS 1 hts (jgS (jWr_49 _ (List.mem_of_getElem? (i := 18) rfl)) (jWr_49 _ (List.mem_of_getElem? (i := 19) rfl)) (jWr_1 _ (List.mem_of_getElem? (i := 5) rfl)) (jWr_49 _ (List.mem_of_getElem? (i := 20) rfl))) rfl rfl rfl (by decide +kernel) ⟨by rw [← hR]; exact Nat.le_of_ble_eq_true rfl, by rw [← hR]; exact Nat.le_of_ble_eq_true rfl⟩) ⟨fun a U g mk q => by obtain ⟨q0, q1, q2, qK, q10, q11⟩ := q; exact ⟨q0, q1, q2, jG.calling g mk a qK, q10, q11⟩, fun U hU hW => ⟨rfl, hU, hh_23.2.1, hG.step hW hU hh_23.1, jP.nil, trivial⟩⟩ rfl rfl hl.1 rfl (lv_room (Nat.le_of_ble_eq_true rfl)) dX14_isLengthSoFar_43 ⟨Nat.zero_le _, Nat.zero_le _⟩) hh_23.1 (fun q _ h => h) (fun q h => h) (fun r_26 u_25 t_25 H_25 locs_25 ht_25 hvm_25 hr_26 hb_25 hz_25 hk_25 hS_25 => ?_)
              rw [ht_25] at hb_25
              obtain ⟨hb_251, hb_252, hb_253, hb_254, hb_255⟩ := hb_25
              have hh_25 : jSt (dC, dI) B base G0 G0 EX14_isLengthSoFar s.heap 0 0 [(r0, 16, 14, .ref bv), (bv, 0, 3, .int pc), (bv, 0, 0, .ref pa)] [(pa, 196, n_pa, ca 0, fv)] [] H_25 locs_25 := ((hh_23.call hb_251 hb_252 hb_253 hb_254 hS_25 rfl (L1 := [(r0, 16, 14, .ref bv), (bv, 0, 3, .int pc), (bv, 0, 0, .ref pa)]) [0, 1, 2] rfl rfl (M1 := [(pa, 196, n_pa, ca 0, fv)]) [0] rfl rfl (I1 := []) [] rfl rfl).more hb_255)
              clear hh_23 ht_25 hvm_25 hz_25 hk_25 hS_25 hb_251 hb_252 hb_253 hb_254 hb_255
              obtain ⟨hr_26b, hr_26p⟩ := hr_26
              obtain ⟨hr_26p_0, hr_26p_1⟩ := hr_26p
              have hr_26' := jb_01 hr_26b
              refine lv_if_ne (tgt := 51) hx hb dX14_isLengthSoFar_46 (by decide) (fun c_27 => ?_) (fun c_27 => ?_)
              · skip
                have c_27' : r_26.toInt ≠ 0 := jb_ne (rfl) ((by decide)) c_27
                refine lv_bipush (v := 10) hx hb dX14_isLengthSoFar_51 (by decide) ?_
                refine lv_iload_n hx hb dX14_isLengthSoFar_53 rfl (lv_at hl 3 rfl) ?_
                refine lv_imul hx hb dX14_isLengthSoFar_54 ?_
                refine lv_topi (fun z_28 ez_28 => ?_)
                have hz_28 : z_28.toInt = 10 * v3_20.toInt := by rw [ez_28]; exact jb_imul2 ((by decide)) (rfl) (by omega)
                refine lv_aload_n hx hb dX14_isLengthSoFar_55 rfl (lv_at hl 0 rfl) ?_
                refine j7_read hx hb hown hK (C := RX14) (T := TX14) (N := 74) rfl hly_16_14 hlk_30 (hh_25.at 0 rfl) dX14_isLengthSoFar_56 ?_
                refine lv_iload hx hb dX14_isLengthSoFar_59 (lv_at hl 4 rfl) ?_
                refine va_calli (A0 := jA base) (H0 := s.heap) (va_runV (As := [.int v4_20]) (rest := [.int z_28]) ⟨hx, hb, hml, hown, hts⟩ (uJ4_charAt_5068e l dC dI ca base B hB hAp hB0 hB196 G0 H_25 bv v4_20 pc pa n_pa fv) (cwV 1 hts (jgV (jWr_49 _ (List.mem_of_getElem? (i := 2) rfl)) (jWr_49 _ (List.mem_of_getElem? (i := 3) rfl)) (jWr_49 _ (List.mem_of_getElem? (i := 4) rfl)) (jWr_11 _ (List.mem_of_getElem? (i := 0) rfl)) (jWr_49 _ (List.mem_of_getElem? (i := 5) rfl))) rfl rfl rfl (by decide +kernel) ⟨by rw [← hR]; exact Nat.le_of_ble_eq_true rfl, by rw [← hR]; exact Nat.le_of_ble_eq_true rfl⟩) ⟨fun a U g mk q => by obtain ⟨q0, q1, q2, qK, q10, q11, q12, q13, q14⟩ := q; exact ⟨q0, q1, q2, jG.calling g mk a qK, q10, q11, q12, q13, q14⟩, hh_25.recv (C := RJ4) (T := TJ4) (N := 4) hB0 rfl (by decide) hg_bv hK, fun U hU hW => ⟨rfl, hU, hh_25.2.1, hG.step hW hU hh_25.1, hg_bv, hg_pa, (hh_25.2.2.1.sub (L1 := [(bv, 0, 3, .int pc), (bv, 0, 0, .ref pa)]) [1, 2] rfl), (hh_25.2.2.2.2.2.2.2.1.sub (L1 := [(pa, 196, n_pa, ca 0, fv)]) [0] rfl), by first | omega | (refine ⟨?_, ?_, ?_, ?_⟩ <;> (first | omega | rfl | assumption | decide | exact Or.inl rfl | exact Or.inr rfl | (simp only; omega)))⟩⟩ rfl rfl hl.1 rfl (lv_room (Nat.le_of_ble_eq_true rfl)) dX14_isLengthSoFar_61 ⟨Nat.zero_le _, Nat.zero_le _⟩) hh_25.1 (fun q _ h => h) (fun q h => h) (fun r_30 u_29 t_29 H_29 locs_29 ht_29 hvm_29 hr_30 hb_29 hz_29 hk_29 hS_29 => ?_)
                rw [ht_29] at hb_29
                obtain ⟨hb_291, hb_292, hb_293, hb_294, hb_295⟩ := hb_29
                have hh_29 : jSt (dC, dI) B base G0 G0 EX14_isLengthSoFar s.heap 0 0 [(r0, 16, 14, .ref bv), (bv, 0, 3, .int pc), (bv, 0, 0, .ref pa)] [(pa, 196, n_pa, ca 0, fv)] [] H_29 locs_29 := ((hh_25.call hb_291 hb_292 hb_293 hb_294 hS_29 rfl (L1 := [(r0, 16, 14, .ref bv), (bv, 0, 3, .int pc), (bv, 0, 0, .ref pa)]) [0, 1, 2] rfl rfl (M1 := [(pa, 196, n_pa, ca 0, fv)]) [0] rfl rfl (I1 := []) [] rfl rfl).more hb_295)
                clear hh_25 ht_29 hvm_29 hz_29 hk_29 hS_29 hb_291 hb_292 hb_293 hb_294 hb_295
                obtain ⟨hr_30_0, hr_30_1, hr_30_2⟩ := hr_30
                refine lv_iadd hx hb dX14_isLengthSoFar_64 ?_
                refine lv_topi (fun z_31 ez_31 => ?_)
                have hz_31 : z_31.toInt = z_28.toInt + r_30.toInt := by rw [ez_31]; exact jb_iadd2 (rfl) (rfl) (by omega)
                refine lv_bipush (v := 48) hx hb dX14_isLengthSoFar_65 (by decide) ?_
                refine lv_isub hx hb dX14_isLengthSoFar_67 ?_
                refine lv_topi (fun z_32 ez_32 => ?_)
                have hz_32 : z_32.toInt = z_31.toInt - 48 := by rw [ez_32]; exact jb_isub2 (rfl) ((by decide)) (by omega)
                refine lv_istore_n (lv' := [(3, .int z_32), (0, .ref r0), (1, .int a1), (2, .int r_2), (4, .int v4_20)]) hx hb dX14_isLengthSoFar_68 rfl hl (by decide) rfl (fun ls hl => ?_)
                obtain ⟨z_33, ez_33⟩ : ∃ y : Int32, y = v4_20 + 1 := ⟨_, rfl⟩
                refine lv_iinc (v := z_33) (lv' := [(4, .int z_33), (3, .int z_32), (0, .ref r0), (1, .int a1), (2, .int r_2)]) hx hb dX14_isLengthSoFar_69 hl (k := 4) rfl (by rw [ez_33]; rfl) (by decide) rfl (fun ls hl => ?_)
                have hz_33 : z_33.toInt = v4_20.toInt + 1 := by rw [ez_33]; exact jb_iadd2 (rfl) (by decide) (by omega)
                refine lv_goto (tgt := 28) hx hb dX14_isLengthSoFar_72 (by decide) ?_
                exact L28 z_32 z_33 _ _ hh_29 (by have hd0 := hr_24_0; refine ⟨by omega, by omega, jNm_s hi_20_2 (by omega) hr_30_2 (by omega) (by omega), by omega, by omega, by omega, by omega, by omega, by omega, hi_20_9.snoc hr_24_2 (by omega) (by omega) (by omega)⟩) (by omega) _ (lv_sub hl [2, 3, 4, 1, 0] rfl)
              · skip
                have c_27' : r_26.toInt = 0 := jb_ne_n (rfl) ((by decide)) c_27
                refine lv_iconst (v := 0) hx hb dX14_isLengthSoFar_49 (by decide) ?_
                rw [hQ]
                exact W.zret (v := 0) hx hb hr (jb_nz (Or.inl rfl)) (fun t ht hW => ⟨⟨0, (), rfl, ⟨(Or.inl rfl), by refine ⟨by omega, by omega, fun h9 => ?_⟩; omega⟩, hh_25.rt (M1 := []) [] rfl ht⟩, by rw [ht]; try exact hh_25.1.1, fun q h9 hq => by rw [ht]; try exact hh_25.1.2.1 q h9 hq⟩) hh_25.1.2.2 dX14_isLengthSoFar_50
        exact L28 (pc.toInt - (0 : Int32).toInt : Int).toNat.succ 0 0 _ _ hh_1 (by refine ⟨by omega, by omega, by rw [hk0]; rfl, by omega, by omega, by omega, by omega, by omega, by omega, ?_⟩; rw [hk0]; exact fun i h0 h1 => by omega) (by omega) _ (lv_sub hl [3, 4, 2, 1, 0] rfl)
      · skip
        have c_19' : r_2.toInt = 0 := jb_ne_n (rfl) ((by decide)) c_19
        refine lv_iconst (v := 0) hx hb dX14_isLengthSoFar_21 (by decide) ?_
        rw [hQ]
        exact W.zret (v := 0) hx hb hr (jb_nz (Or.inl rfl)) (fun t ht hW => ⟨⟨0, (), rfl, ⟨(Or.inl rfl), by refine ⟨by omega, by omega, fun h9 => ?_⟩; omega⟩, hh_1.rt (M1 := []) [] rfl ht⟩, by rw [ht]; try exact hh_1.1.1, fun q h9 hq => by rw [ht]; try exact hh_1.1.2.1 q h9 hq⟩) hh_1.1.2.2 dX14_isLengthSoFar_22
set_option maxHeartbeats 4000000 in
set_option maxRecDepth 20000 in
theorem uX14_isContentLength (l : Launch) (dC : Nat → ClassId) (dI : Nat → Nat → Nat) (ca : Nat → ClassId) (base : Nat) (B : jF) (hB : jBok B) (hAp : jAp (dC, dI)) (hB0 : ∀ n G a H, B 0 n G a H ↔ jOb (dC, dI) 0 4 (Fz0 n G) a H) (hB16 : ∀ n G a H, B 16 n G a H ↔ jOb (dC, dI) 16 74 (F16 n G) a H) (hB196 : ∀ n G a H, B 196 n G a H ↔ jAr (dC, dI) (ca 0) (fun j z => jBf j z) n a H) (G0 : jT) (H0 : Heap) (r0 : Nat) (bn : Nat) (pc : Int32) (pa : Nat) (n_pa : Nat) (fv : Nat → Int32) : Met l yX14_isContentLength (jw yX14_isContentLength cX14_isContentLength 4 (some .boolean)) ({ frames := 4, cells := 0, slots := 0, locals := 141 }) (va_Pc [.ref r0] (fun U => U.heap = H0 ∧ jX B base G0 [] H0 ∧ jG dC dI ca base U ∧ G0 r0 = some (16, 0) ∧ G0 bn = some (0, 0) ∧ G0 pa = some (196, n_pa) ∧ jP (dC, dI) G0 H0 [(r0, 16, 13, .ref bn), (bn, 0, 3, .int pc), (bn, 0, 0, .ref pa)] ∧ jMc (dC, dI) G0 H0 [(pa, 196, n_pa, ca 0, fv)] ∧ 0 ≤ pc.toInt ∧ pc.toInt ≤ n_pa ∧ n_pa ≤ 1000)) (va_Qi (S := Unit) (fun r u => (r = 0 ∨ r = 1) ∧ (True)) (fun u t => jRt (dC, dI) B base G0 EX14_isContentLength H0 [] t.heap) (jA base)) 0 0 (jA base) := by
  refine Met.ofW (cc := cX14_isContentLength) (maxL := 4) (ret := (some .boolean)) (by decide) rfl ?_
  intro p e s m args below meth c s₁ Bd hml hv
  obtain ⟨rfl, hH0, hX, hG, hg_r0, hg_bn, hg_pa, hP0, hM0, hp0, hp1, hp2⟩ := hv
  have hK := hG.1
  have hx := Bd.exec
  have hb := Bd.bytes
  have hr := Bd.returns
  have hts := atoms_spec (ws := (jw yX14_isContentLength cX14_isContentLength 4 (some .boolean))) Bd.pre
  have htw : ∀ w ∈ jWl, w.before _ s = true := fun w h => hts w (List.mem_cons_of_mem _ h)
  have hown : s.vm.findClass RX14 = some m.cls := findClass_of_methodNamed Bd.named
  have hlocks := Bd.notSynchronized
  obtain ⟨Q, hQ⟩ : ∃ Q, Q = MQ below (va_Qi (S := Unit) (fun r u => (r = 0 ∨ r = 1) ∧ (True)) (fun u t => jRt (dC, dI) B base G0 EX14_isContentLength H0 [] t.heap) (jA base)) ([.ref r0] : List Value).toArray s 0 0 (jA base) := ⟨_, rfl⟩
  rw [← hQ]
  have hl := lv_entry ([.ref r0]) (n := 4) (Nat.le_of_ble_eq_true rfl)
  rw [lg_entry_eq]
  generalize (lg_sl ([.ref r0]) ++ List.replicate (4 - (lg_sl ([.ref r0])).length) Slot.unset).toArray = ls at hl ⊢
  have hl : lv_has ls 4 [(0, .ref r0)] := hl
  generalize hR : (headSpec (jw yX14_isContentLength cX14_isContentLength 4 (some .boolean)) ({ frames := 4, cells := 0, slots := 0, locals := 141 })).room = R
  subst hH0
  have hh : jSt (dC, dI) B base G0 G0 EX14_isContentLength s.heap 0 0 [(r0, 16, 13, .ref bn), (bn, 0, 3, .int pc), (bn, 0, 0, .ref pa)] [(pa, 196, n_pa, ca 0, fv)] [] s.heap [] := jSt.start hX hP0 hM0 jIs.nil
  clear hX hP0
  have hk0 : (0 : Int32).toInt = 0 := by decide
  have hk1 : (1 : Int32).toInt = 1 := by decide
  have hk32 : (32 : Int32).toInt = 32 := by decide
  have hk65 : (65 : Int32).toInt = 65 := by decide
  have hk90 : (90 : Int32).toInt = 90 := by decide
  have hly_16_13 := htw (u_lay RX14 TX14 13) (jWc_wsX140 _ (u_in_lay (by decide)))
  obtain ⟨str220, rstr220, hstr2200⟩ := hG.str (o := RX14) (k := 220) (tx := "content-length") (List.mem_of_getElem? (i := 2274) (by decide +kernel))
  have hstr220 : jStr base str220 14 s s.heap := hstr2200
  have hlk_26 := (htw (.fieldLink RX14 26 "ProofServerModel" "name" "Ljava/lang/StringBuilder;") (jWr_11 _ (List.mem_of_getElem? (i := 1) rfl)))
  refine va_ldcS hx hb hown rstr220 dX14_isContentLength_0 ?_
  refine lv_astore_n (lv' := [(1, .ref str220), (0, .ref r0)]) hx hb dX14_isContentLength_2 rfl hl (by decide) rfl (fun ls hl => ?_)
  refine lv_aload_n hx hb dX14_isContentLength_3 rfl (lv_at hl 1 rfl) ?_
  refine j7_read hx hb hown hK (C := RX14) (T := TX14) (N := 74) rfl hly_16_13 hlk_26 (hh.at 0 rfl) dX14_isContentLength_4 ?_
  refine va_calli (A0 := jA base) (H0 := s.heap) (va_runV (As := []) (rest := []) ⟨hx, hb, hml, hown, hts⟩ (uJ4_length_8abf5 l dC dI ca base B hB hAp hB0 G0 s.heap bn pc) (cwV 0 hts (jgV (jWr_48 _ (List.mem_of_getElem? (i := 17) rfl)) (jWr_48 _ (List.mem_of_getElem? (i := 18) rfl)) (jWr_48 _ (List.mem_of_getElem? (i := 19) rfl)) (jWr_11 _ (List.mem_of_getElem? (i := 0) rfl)) (jWr_48 _ (List.mem_of_getElem? (i := 20) rfl))) rfl rfl rfl (by decide +kernel) ⟨by rw [← hR]; exact Nat.le_of_ble_eq_true rfl, by rw [← hR]; exact Nat.le_of_ble_eq_true rfl⟩) ⟨fun a U g mk q => by obtain ⟨q0, q1, q2, qK, q10, q11, q12⟩ := q; exact ⟨q0, q1, q2, jG.calling g mk a qK, q10, q11, q12⟩, hh.recv (C := RJ4) (T := TJ4) (N := 4) hB0 rfl (by decide) hg_bn hK, fun U hU hW => ⟨rfl, hU, hh.2.1, hG.step hW hU hh.1, hg_bn, (hh.2.2.1.sub (L1 := [(bn, 0, 3, .int pc)]) [1] rfl), trivial⟩⟩ rfl rfl hl.1 rfl (lv_room (Nat.le_of_ble_eq_true rfl)) dX14_isContentLength_7 ⟨Nat.zero_le _, Nat.zero_le _⟩) hh.1 (fun q _ h => h) (fun q h => h) (fun r_2 u_1 t_1 H_1 locs_1 ht_1 hvm_1 hr_2 hb_1 hz_1 hk_1 hS_1 => ?_)
  rw [ht_1] at hb_1
  obtain ⟨hb_11, hb_12, hb_13, hb_14, hb_15⟩ := hb_1
  have hh_1 : jSt (dC, dI) B base G0 G0 EX14_isContentLength s.heap 0 0 [(r0, 16, 13, .ref bn), (bn, 0, 3, .int pc), (bn, 0, 0, .ref pa)] [(pa, 196, n_pa, ca 0, fv)] [] H_1 locs_1 := ((hh.call hb_11 hb_12 hb_13 hb_14 hS_1 rfl (L1 := [(r0, 16, 13, .ref bn), (bn, 0, 3, .int pc), (bn, 0, 0, .ref pa)]) [0, 1, 2] rfl rfl (M1 := [(pa, 196, n_pa, ca 0, fv)]) [0] rfl rfl (I1 := []) [] rfl rfl).more hb_15)
  clear hh ht_1 hvm_1 hz_1 hk_1 hS_1 hb_11 hb_12 hb_13 hb_14 hb_15
  refine lv_aload_n hx hb dX14_isContentLength_10 rfl (lv_at hl 0 rfl) ?_
  refine vp_callSi (W.runV (As := []) (rest := [.int r_2]) ⟨hx, hb, hml, hown, hts⟩ (wJ0_length_8abf5 l dC dI ca base H_1 str220 14) (cwV 0 hts (jgV (jWr_49 _ (List.mem_of_getElem? (i := 1) rfl)) (jWr_5 _ (List.mem_of_getElem? (i := 13) rfl)) (jWr_5 _ (List.mem_of_getElem? (i := 14) rfl)) (jWr_5 _ (List.mem_of_getElem? (i := 15) rfl)) (jWr_5 _ (List.mem_of_getElem? (i := 16) rfl))) rfl rfl rfl (by decide +kernel) ⟨by rw [← hR]; exact Nat.le_of_ble_eq_true rfl, by rw [← hR]; exact Nat.le_of_ble_eq_true rfl⟩) ⟨fun a U g mk q => by obtain ⟨q0, q1, q2, qK, q9⟩ := q; exact ⟨q0, q1, (q2.moved (Vm.Alike.refl U.vm)), jG.calling g mk a qK, q9⟩, jStr_recv hstr220 hh_1.1, fun U hU hW => ⟨rfl, hU, (hstr220.moved hW.alike).kept hh_1.1.2.1, hG.step hW hU hh_1.1, by omega⟩⟩ rfl rfl hl.1 rfl (lv_room (Nat.le_of_ble_eq_true rfl)) dX14_isContentLength_11 ⟨Nat.zero_le _, Nat.zero_le _⟩) (fun r_3 hr_3 => ?_)
  refine lv_icmp_eq (tgt := 19) hx hb dX14_isContentLength_14 (by decide) (fun c_4 => ?_) (fun c_4 => ?_)
  · skip
    have c_4' : r_2.toInt = r_3.toInt := jb_eq (rfl) (rfl) c_4
    refine lv_iconst (v := 0) hx hb dX14_isContentLength_19 (by decide) ?_
    refine lv_istore_n (lv' := [(2, .int 0), (1, .ref str220), (0, .ref r0)]) hx hb dX14_isContentLength_20 rfl hl (by decide) rfl (fun ls hl => ?_)
    have L21 : ∀ (N : Nat) (v2_5 : Int32) (H_5 : Heap) (locs_5 : List Loc), jSt (dC, dI) B base G0 G0 EX14_isContentLength s.heap 0 0 [(r0, 16, 13, .ref bn), (bn, 0, 3, .int pc), (bn, 0, 0, .ref pa)] [(pa, 196, n_pa, ca 0, fv)] [] H_5 locs_5 → (0 ≤ v2_5.toInt ∧ v2_5.toInt ≤ 14) → (14 - v2_5.toInt : Int) < N → ∀ ls : Array Slot, lv_has ls 4 [(0, .ref r0), (1, .ref str220), (2, .int v2_5)] → W p l e R s m ([.ref r0] : List Value).toArray below meth c H_5 locs_5 0 0 Q (F0 m 21 ls []) := by
      intro N
      induction N with
      | zero => intro v2_5 H_5 locs_5 hh_5  hi_5 hm; exact absurd hm (by omega)
      | succ N L21 =>
        intro v2_5 H_5 locs_5 hh_5  hi_5 hm_5 ls hl
        obtain ⟨hi_5_0, hi_5_1⟩ := hi_5
        refine lv_iload_n hx hb dX14_isContentLength_21 rfl (lv_at hl 2 rfl) ?_
        refine lv_aload_n hx hb dX14_isContentLength_22 rfl (lv_at hl 1 rfl) ?_
        refine vp_callSi (W.runV (As := []) (rest := [.int v2_5]) ⟨hx, hb, hml, hown, hts⟩ (wJ0_length_8abf5 l dC dI ca base H_5 str220 14) (cwV 0 hts (jgV (jWr_49 _ (List.mem_of_getElem? (i := 1) rfl)) (jWr_5 _ (List.mem_of_getElem? (i := 13) rfl)) (jWr_5 _ (List.mem_of_getElem? (i := 14) rfl)) (jWr_5 _ (List.mem_of_getElem? (i := 15) rfl)) (jWr_5 _ (List.mem_of_getElem? (i := 16) rfl))) rfl rfl rfl (by decide +kernel) ⟨by rw [← hR]; exact Nat.le_of_ble_eq_true rfl, by rw [← hR]; exact Nat.le_of_ble_eq_true rfl⟩) ⟨fun a U g mk q => by obtain ⟨q0, q1, q2, qK, q9⟩ := q; exact ⟨q0, q1, (q2.moved (Vm.Alike.refl U.vm)), jG.calling g mk a qK, q9⟩, jStr_recv hstr220 hh_5.1, fun U hU hW => ⟨rfl, hU, (hstr220.moved hW.alike).kept hh_5.1.2.1, hG.step hW hU hh_5.1, by omega⟩⟩ rfl rfl hl.1 rfl (lv_room (Nat.le_of_ble_eq_true rfl)) dX14_isContentLength_23 ⟨Nat.zero_le _, Nat.zero_le _⟩) (fun r_6 hr_6 => ?_)
        refine lv_icmp_ge (tgt := 73) hx hb dX14_isContentLength_26 (by decide) (fun c_7 => ?_) (fun c_7 => ?_)
        · skip
          have c_7' : v2_5.toInt ≥ r_6.toInt := jb_ge (rfl) (rfl) c_7
          refine lv_iconst (v := 1) hx hb dX14_isContentLength_73 (by decide) ?_
          rw [hQ]
          exact W.zret (v := 1) hx hb hr (jb_nz (Or.inr rfl)) (fun t ht hW => ⟨⟨1, (), rfl, ⟨(Or.inr rfl), trivial⟩, hh_5.rt (M1 := []) [] rfl ht⟩, by rw [ht]; try exact hh_5.1.1, fun q h9 hq => by rw [ht]; try exact hh_5.1.2.1 q h9 hq⟩) hh_5.1.2.2 dX14_isContentLength_74
        · skip
          have c_7' : v2_5.toInt < r_6.toInt := jb_ge_n (rfl) (rfl) c_7
          refine lv_aload_n hx hb dX14_isContentLength_29 rfl (lv_at hl 0 rfl) ?_
          refine j7_read hx hb hown hK (C := RX14) (T := TX14) (N := 74) rfl hly_16_13 hlk_26 (hh_5.at 0 rfl) dX14_isContentLength_30 ?_
          refine lv_iload_n hx hb dX14_isContentLength_33 rfl (lv_at hl 2 rfl) ?_
          refine va_calli (A0 := jA base) (H0 := s.heap) (va_runV (As := [.int v2_5]) (rest := []) ⟨hx, hb, hml, hown, hts⟩ (uJ4_charAt_5068e l dC dI ca base B hB hAp hB0 hB196 G0 H_5 bn v2_5 pc pa n_pa fv) (cwV 1 hts (jgV (jWr_49 _ (List.mem_of_getElem? (i := 2) rfl)) (jWr_49 _ (List.mem_of_getElem? (i := 3) rfl)) (jWr_49 _ (List.mem_of_getElem? (i := 4) rfl)) (jWr_11 _ (List.mem_of_getElem? (i := 0) rfl)) (jWr_49 _ (List.mem_of_getElem? (i := 5) rfl))) rfl rfl rfl (by decide +kernel) ⟨by rw [← hR]; exact Nat.le_of_ble_eq_true rfl, by rw [← hR]; exact Nat.le_of_ble_eq_true rfl⟩) ⟨fun a U g mk q => by obtain ⟨q0, q1, q2, qK, q10, q11, q12, q13, q14⟩ := q; exact ⟨q0, q1, q2, jG.calling g mk a qK, q10, q11, q12, q13, q14⟩, hh_5.recv (C := RJ4) (T := TJ4) (N := 4) hB0 rfl (by decide) hg_bn hK, fun U hU hW => ⟨rfl, hU, hh_5.2.1, hG.step hW hU hh_5.1, hg_bn, hg_pa, (hh_5.2.2.1.sub (L1 := [(bn, 0, 3, .int pc), (bn, 0, 0, .ref pa)]) [1, 2] rfl), (hh_5.2.2.2.2.2.2.2.1.sub (L1 := [(pa, 196, n_pa, ca 0, fv)]) [0] rfl), by first | omega | (refine ⟨?_, ?_, ?_, ?_⟩ <;> (first | omega | rfl | assumption | decide | exact Or.inl rfl | exact Or.inr rfl | (simp only; omega)))⟩⟩ rfl rfl hl.1 rfl (lv_room (Nat.le_of_ble_eq_true rfl)) dX14_isContentLength_34 ⟨Nat.zero_le _, Nat.zero_le _⟩) hh_5.1 (fun q _ h => h) (fun q h => h) (fun r_9 u_8 t_8 H_8 locs_8 ht_8 hvm_8 hr_9 hb_8 hz_8 hk_8 hS_8 => ?_)
          rw [ht_8] at hb_8
          obtain ⟨hb_81, hb_82, hb_83, hb_84, hb_85⟩ := hb_8
          have hh_8 : jSt (dC, dI) B base G0 G0 EX14_isContentLength s.heap 0 0 [(r0, 16, 13, .ref bn), (bn, 0, 3, .int pc), (bn, 0, 0, .ref pa)] [(pa, 196, n_pa, ca 0, fv)] [] H_8 locs_8 := ((hh_5.call hb_81 hb_82 hb_83 hb_84 hS_8 rfl (L1 := [(r0, 16, 13, .ref bn), (bn, 0, 3, .int pc), (bn, 0, 0, .ref pa)]) [0, 1, 2] rfl rfl (M1 := [(pa, 196, n_pa, ca 0, fv)]) [0] rfl rfl (I1 := []) [] rfl rfl).more hb_85)
          clear hh_5 ht_8 hvm_8 hz_8 hk_8 hS_8 hb_81 hb_82 hb_83 hb_84 hb_85
          obtain ⟨hr_9_0, hr_9_1, hr_9_2⟩ := hr_9
          refine lv_istore_n (lv' := [(3, .int r_9), (0, .ref r0), (1, .ref str220), (2, .int v2_5)]) hx hb dX14_isContentLength_37 rfl hl (by decide) rfl (fun ls hl => ?_)
          refine lv_iload_n hx hb dX14_isContentLength_38 rfl (lv_at hl 0 rfl) ?_
          refine lv_bipush (v := 65) hx hb dX14_isContentLength_39 (by decide) ?_
          refine lv_bipush (v := 90) hx hb dX14_isContentLength_41 (by decide) ?_
          refine va_calli (A0 := jA base) (H0 := s.heap) (va_runS (As := [.int r_9, .int 65, .int 90]) (rest := []) ⟨hx, hb, hml, hown, hts⟩ (uX14_in l dC dI ca base B hB hAp G0 H_8 r_9 65 90) (va_cwS 3 hts (jgS (jWr_48 _ (List.mem_of_getElem? (i := 10) rfl)) (jWr_48 _ (List.mem_of_getElem? (i := 11) rfl)) (jWr_1 _ (List.mem_of_getElem? (i := 5) rfl)) (jWr_48 _ (List.mem_of_getElem? (i := 12) rfl))) rfl rfl rfl (by decide +kernel) ⟨by rw [← hR]; exact Nat.le_of_ble_eq_true rfl, by rw [← hR]; exact Nat.le_of_ble_eq_true rfl⟩) ⟨fun a U g mk q => by obtain ⟨q0, q1, q2, qK, q10, q11⟩ := q; exact ⟨q0, q1, q2, jG.calling g mk a qK, q10, q11⟩, fun U hU hW => ⟨rfl, hU, hh_8.2.1, hG.step hW hU hh_8.1, jP.nil, trivial⟩⟩ rfl rfl hl.1 rfl (lv_room (Nat.le_of_ble_eq_true rfl)) dX14_isContentLength_43 ⟨Nat.zero_le _, Nat.zero_le _⟩) hh_8.1 (fun q _ h => h) (fun q h => h) (fun r_11 u_10 t_10 H_10 locs_10 ht_10 hvm_10 hr_11 hb_10 hz_10 hk_10 hS_10 => ?_)
          rw [ht_10] at hb_10
          obtain ⟨hb_101, hb_102, hb_103, hb_104, hb_105⟩ := hb_10
          have hh_10 : jSt (dC, dI) B base G0 G0 EX14_isContentLength s.heap 0 0 [(r0, 16, 13, .ref bn), (bn, 0, 3, .int pc), (bn, 0, 0, .ref pa)] [(pa, 196, n_pa, ca 0, fv)] [] H_10 locs_10 := ((hh_8.call hb_101 hb_102 hb_103 hb_104 hS_10 rfl (L1 := [(r0, 16, 13, .ref bn), (bn, 0, 3, .int pc), (bn, 0, 0, .ref pa)]) [0, 1, 2] rfl rfl (M1 := [(pa, 196, n_pa, ca 0, fv)]) [0] rfl rfl (I1 := []) [] rfl rfl).more hb_105)
          clear hh_8 ht_10 hvm_10 hz_10 hk_10 hS_10 hb_101 hb_102 hb_103 hb_104 hb_105
          obtain ⟨hr_11b, hr_11p⟩ := hr_11
          obtain ⟨hr_11p_0, hr_11p_1, hr_11p_2⟩ := hr_11p
          have hr_11' := jb_01 hr_11b
          refine lv_if_eq (tgt := 56) hx hb dX14_isContentLength_46 (by decide) (fun c_12 => ?_) (fun c_12 => ?_)
          · skip
            have c_12' : r_11.toInt = 0 := jb_eq (rfl) ((by decide)) c_12
            refine lv_iload_n hx hb dX14_isContentLength_56 rfl (lv_at hl 0 rfl) ?_
            refine lv_aload_n hx hb dX14_isContentLength_57 rfl (lv_at hl 2 rfl) ?_
            refine lv_iload_n hx hb dX14_isContentLength_58 rfl (lv_at hl 3 rfl) ?_
            refine vp_callSi (W.runV (As := [.int v2_5]) (rest := [.int r_9]) ⟨hx, hb, hml, hown, hts⟩ (wJ0_charAt_5068e l dC dI ca base H_10 str220 14 v2_5) (cwV 1 hts (jgV (jWr_49 _ (List.mem_of_getElem? (i := 13) rfl)) (jWr_6 _ (List.mem_of_getElem? (i := 1) rfl)) (jWr_6 _ (List.mem_of_getElem? (i := 2) rfl)) (jWr_5 _ (List.mem_of_getElem? (i := 15) rfl)) (jWr_6 _ (List.mem_of_getElem? (i := 3) rfl))) rfl rfl rfl (by decide +kernel) ⟨by rw [← hR]; exact Nat.le_of_ble_eq_true rfl, by rw [← hR]; exact Nat.le_of_ble_eq_true rfl⟩) ⟨fun a U g mk q => by obtain ⟨q0, q1, q2, qK, q9⟩ := q; exact ⟨q0, q1, (q2.moved (Vm.Alike.refl U.vm)), jG.calling g mk a qK, q9⟩, jStr_recv hstr220 hh_10.1, fun U hU hW => ⟨rfl, hU, (hstr220.moved hW.alike).kept hh_10.1.2.1, hG.step hW hU hh_10.1, ⟨by omega, by omega, by omega⟩⟩⟩ rfl rfl hl.1 rfl (lv_room (Nat.le_of_ble_eq_true rfl)) dX14_isContentLength_59 ⟨Nat.zero_le _, Nat.zero_le _⟩) (fun r_13 hr_13 => ?_)
            refine lv_icmp_eq (tgt := 67) hx hb dX14_isContentLength_62 (by decide) (fun c_14 => ?_) (fun c_14 => ?_)
            · skip
              have c_14' : r_9.toInt = r_13.toInt := jb_eq (rfl) (rfl) c_14
              obtain ⟨z_15, ez_15⟩ : ∃ y : Int32, y = v2_5 + 1 := ⟨_, rfl⟩
              refine lv_iinc (v := z_15) (lv' := [(2, .int z_15), (3, .int r_9), (0, .ref r0), (1, .ref str220)]) hx hb dX14_isContentLength_67 hl (k := 3) rfl (by rw [ez_15]; rfl) (by decide) rfl (fun ls hl => ?_)
              have hz_15 : z_15.toInt = v2_5.toInt + 1 := by rw [ez_15]; exact jb_iadd2 (rfl) (by decide) (by omega)
              refine lv_goto (tgt := 21) hx hb dX14_isContentLength_70 (by decide) ?_
              exact L21 z_15 _ _ hh_10 (by first | omega | (refine ⟨?_, ?_⟩ <;> (first | omega | rfl | assumption | decide | exact Or.inl rfl | exact Or.inr rfl | (simp only; omega)))) (by omega) _ (lv_sub hl [2, 3, 0] rfl)
            · skip
              have c_14' : r_9.toInt ≠ r_13.toInt := jb_eq_n (rfl) (rfl) c_14
              refine lv_iconst (v := 0) hx hb dX14_isContentLength_65 (by decide) ?_
              rw [hQ]
              exact W.zret (v := 0) hx hb hr (jb_nz (Or.inl rfl)) (fun t ht hW => ⟨⟨0, (), rfl, ⟨(Or.inl rfl), trivial⟩, hh_10.rt (M1 := []) [] rfl ht⟩, by rw [ht]; try exact hh_10.1.1, fun q h9 hq => by rw [ht]; try exact hh_10.1.2.1 q h9 hq⟩) hh_10.1.2.2 dX14_isContentLength_66
          · skip
            have c_12' : r_11.toInt ≠ 0 := jb_eq_n (rfl) ((by decide)) c_12
            refine lv_iload_n hx hb dX14_isContentLength_49 rfl (lv_at hl 0 rfl) ?_
            refine lv_bipush (v := 32) hx hb dX14_isContentLength_50 (by decide) ?_
            refine lv_iadd hx hb dX14_isContentLength_52 ?_
            refine lv_topi (fun z_16 ez_16 => ?_)
            have hz_16 : z_16.toInt = r_9.toInt + 32 := by rw [ez_16]; exact jb_iadd2 (rfl) ((by decide)) (by omega)
            refine lv_goto (tgt := 57) hx hb dX14_isContentLength_53 (by decide) ?_
            refine lv_aload_n hx hb dX14_isContentLength_57 rfl (lv_at hl 2 rfl) ?_
            refine lv_iload_n hx hb dX14_isContentLength_58 rfl (lv_at hl 3 rfl) ?_
            refine vp_callSi (W.runV (As := [.int v2_5]) (rest := [.int z_16]) ⟨hx, hb, hml, hown, hts⟩ (wJ0_charAt_5068e l dC dI ca base H_10 str220 14 v2_5) (cwV 1 hts (jgV (jWr_49 _ (List.mem_of_getElem? (i := 13) rfl)) (jWr_6 _ (List.mem_of_getElem? (i := 1) rfl)) (jWr_6 _ (List.mem_of_getElem? (i := 2) rfl)) (jWr_5 _ (List.mem_of_getElem? (i := 15) rfl)) (jWr_6 _ (List.mem_of_getElem? (i := 3) rfl))) rfl rfl rfl (by decide +kernel) ⟨by rw [← hR]; exact Nat.le_of_ble_eq_true rfl, by rw [← hR]; exact Nat.le_of_ble_eq_true rfl⟩) ⟨fun a U g mk q => by obtain ⟨q0, q1, q2, qK, q9⟩ := q; exact ⟨q0, q1, (q2.moved (Vm.Alike.refl U.vm)), jG.calling g mk a qK, q9⟩, jStr_recv hstr220 hh_10.1, fun U hU hW => ⟨rfl, hU, (hstr220.moved hW.alike).kept hh_10.1.2.1, hG.step hW hU hh_10.1, ⟨by omega, by omega, by omega⟩⟩⟩ rfl rfl hl.1 rfl (lv_room (Nat.le_of_ble_eq_true rfl)) dX14_isContentLength_59 ⟨Nat.zero_le _, Nat.zero_le _⟩) (fun r_17 hr_17 => ?_)
            refine lv_icmp_eq (tgt := 67) hx hb dX14_isContentLength_62 (by decide) (fun c_18 => ?_) (fun c_18 => ?_)
            · skip
              have c_18' : z_16.toInt = r_17.toInt := jb_eq (rfl) (rfl) c_18
              obtain ⟨z_19, ez_19⟩ : ∃ y : Int32, y = v2_5 + 1 := ⟨_, rfl⟩
              refine lv_iinc (v := z_19) (lv' := [(2, .int z_19), (3, .int r_9), (0, .ref r0), (1, .ref str220)]) hx hb dX14_isContentLength_67 hl (k := 3) rfl (by rw [ez_19]; rfl) (by decide) rfl (fun ls hl => ?_)
              have hz_19 : z_19.toInt = v2_5.toInt + 1 := by rw [ez_19]; exact jb_iadd2 (rfl) (by decide) (by omega)
              refine lv_goto (tgt := 21) hx hb dX14_isContentLength_70 (by decide) ?_
              exact L21 z_19 _ _ hh_10 (by first | omega | (refine ⟨?_, ?_⟩ <;> (first | omega | rfl | assumption | decide | exact Or.inl rfl | exact Or.inr rfl | (simp only; omega)))) (by omega) _ (lv_sub hl [2, 3, 0] rfl)
            · skip
              have c_18' : z_16.toInt ≠ r_17.toInt := jb_eq_n (rfl) (rfl) c_18
              refine lv_iconst (v := 0) hx hb dX14_isContentLength_65 (by decide) ?_
              rw [hQ]
              exact W.zret (v := 0) hx hb hr (jb_nz (Or.inl rfl)) (fun t ht hW => ⟨⟨0, (), rfl, ⟨(Or.inl rfl), trivial⟩, hh_10.rt (M1 := []) [] rfl ht⟩, by rw [ht]; try exact hh_10.1.1, fun q h9 hq => by rw [ht]; try exact hh_10.1.2.1 q h9 hq⟩) hh_10.1.2.2 dX14_isContentLength_66
    exact L21 (14 - (0 : Int32).toInt : Int).toNat.succ 0 _ _ hh_1 (by first | omega | (refine ⟨?_, ?_⟩ <;> (first | omega | rfl | assumption | decide | exact Or.inl rfl | exact Or.inr rfl | (simp only; omega)))) (by omega) _ (lv_sub hl [2, 1, 0] rfl)
  · skip
    have c_4' : r_2.toInt ≠ r_3.toInt := jb_eq_n (rfl) (rfl) c_4
    refine lv_iconst (v := 0) hx hb dX14_isContentLength_17 (by decide) ?_
    rw [hQ]
    exact W.zret (v := 0) hx hb hr (jb_nz (Or.inl rfl)) (fun t ht hW => ⟨⟨0, (), rfl, ⟨(Or.inl rfl), trivial⟩, hh_1.rt (M1 := []) [] rfl ht⟩, by rw [ht]; try exact hh_1.1.1, fun q h9 hq => by rw [ht]; try exact hh_1.1.2.1 q h9 hq⟩) hh_1.1.2.2 dX14_isContentLength_18
end
section
-- a method of the class above, called on this
theorem jgX {h : Cond} {own C owner : String} {idx : Nat} {x y : MethodName} {c : ByteArray} {n : Nat} {r : Option FieldType} (h1 : Cond.methodLink own idx x ∈ jWl) (h2 : Cond.sameMethod x.cls owner x.name x.desc ∈ jWl) (h3 : Cond.selects C x y ∈ jWl) (h4 : Cond.instanceMethod y ∈ jWl) (h5 : Cond.initialized y.cls ∈ jWl) (hc : Cond.code y c n r ∈ jWl) : GoodIn (h :: jWl) (va_wsU own idx C owner x y (jw y c n r)) :=
  jgL (fun w hw => by
    rcases List.mem_cons.mp hw with e | hw
    · rw [e]; exact h1
    rcases List.mem_cons.mp hw with e | hw
    · rw [e]; exact h2
    rcases List.mem_cons.mp hw with e | hw
    · rw [e]; exact h3
    rcases List.mem_cons.mp hw with e | hw
    · rw [e]; exact h4
    rw [List.mem_singleton.mp hw]; exact h5) (jgW hc)
theorem jb_shl0 (x : Int32) : x <<< ((0 : Int32) &&& 31) = x := by
  have h := pk_shl x ((0 : Int32) &&& 31) 0 (by decide)
  have h2 : (x <<< ((0 : Int32) &&& 31)).toBitVec = x.toBitVec := BitVec.eq_of_toNat_eq (by
    rw [h]
    have h3 := x.toBitVec.isLt
    omega)
  exact Int32.toBitVec_inj.mp h2
end
section
theorem dJ5_ensureCapacityInternal_d00df_0 : decode cJ5_ensureCapacityInternal_d00df 0 = .ok (.aload_n 0, 1) := by decide +kernel
theorem dJ5_ensureCapacityInternal_d00df_1 : decode cJ5_ensureCapacityInternal_d00df 1 = .ok (.getfield 15, 3) := by decide +kernel
theorem dJ5_ensureCapacityInternal_d00df_4 : decode cJ5_ensureCapacityInternal_d00df 4 = .ok (.arraylength, 1) := by decide +kernel
theorem dJ5_ensureCapacityInternal_d00df_5 : decode cJ5_ensureCapacityInternal_d00df 5 = .ok (.aload_n 0, 1) := by decide +kernel
theorem dJ5_ensureCapacityInternal_d00df_6 : decode cJ5_ensureCapacityInternal_d00df 6 = .ok (.getfield 22, 3) := by decide +kernel
theorem dJ5_ensureCapacityInternal_d00df_9 : decode cJ5_ensureCapacityInternal_d00df 9 = .ok (.ishr, 1) := by decide +kernel
theorem dJ5_ensureCapacityInternal_d00df_10 : decode cJ5_ensureCapacityInternal_d00df 10 = .ok (.istore_n 2, 1) := by decide +kernel
theorem dJ5_ensureCapacityInternal_d00df_11 : decode cJ5_ensureCapacityInternal_d00df 11 = .ok (.iload_n 1, 1) := by decide +kernel
theorem dJ5_ensureCapacityInternal_d00df_12 : decode cJ5_ensureCapacityInternal_d00df 12 = .ok (.iload_n 2, 1) := by decide +kernel
theorem dJ5_ensureCapacityInternal_d00df_13 : decode cJ5_ensureCapacityInternal_d00df 13 = .ok (.isub, 1) := by decide +kernel
theorem dJ5_ensureCapacityInternal_d00df_14 : decode cJ5_ensureCapacityInternal_d00df 14 = .ok (.ifCond .le 24, 3) := by decide +kernel
theorem dJ5_ensureCapacityInternal_d00df_17 : decode cJ5_ensureCapacityInternal_d00df 17 = .ok (.aload_n 0, 1) := by decide +kernel
theorem dJ5_ensureCapacityInternal_d00df_18 : decode cJ5_ensureCapacityInternal_d00df 18 = .ok (.aload_n 0, 1) := by decide +kernel
theorem dJ5_ensureCapacityInternal_d00df_19 : decode cJ5_ensureCapacityInternal_d00df 19 = .ok (.getfield 15, 3) := by decide +kernel
theorem dJ5_ensureCapacityInternal_d00df_22 : decode cJ5_ensureCapacityInternal_d00df 22 = .ok (.aload_n 0, 1) := by decide +kernel
theorem dJ5_ensureCapacityInternal_d00df_23 : decode cJ5_ensureCapacityInternal_d00df 23 = .ok (.iload_n 1, 1) := by decide +kernel
theorem dJ5_ensureCapacityInternal_d00df_24 : decode cJ5_ensureCapacityInternal_d00df 24 = .ok (.invokevirtual 104, 3) := by decide +kernel
theorem dJ5_ensureCapacityInternal_d00df_27 : decode cJ5_ensureCapacityInternal_d00df 27 = .ok (.aload_n 0, 1) := by decide +kernel
theorem dJ5_ensureCapacityInternal_d00df_28 : decode cJ5_ensureCapacityInternal_d00df 28 = .ok (.getfield 22, 3) := by decide +kernel
theorem dJ5_ensureCapacityInternal_d00df_31 : decode cJ5_ensureCapacityInternal_d00df 31 = .ok (.ishl, 1) := by decide +kernel
theorem dJ5_ensureCapacityInternal_d00df_32 : decode cJ5_ensureCapacityInternal_d00df 32 = .ok (.invokestatic 108, 3) := by decide +kernel
theorem dJ5_ensureCapacityInternal_d00df_35 : decode cJ5_ensureCapacityInternal_d00df 35 = .ok (.putfield 15, 3) := by decide +kernel
theorem dJ5_ensureCapacityInternal_d00df_38 : decode cJ5_ensureCapacityInternal_d00df 38 = .ok (.return_, 1) := by decide +kernel
theorem dJ5_newCapacity_0f7a4_0 : decode cJ5_newCapacity_0f7a4 0 = .ok (.aload_n 0, 1) := by decide +kernel
theorem dJ5_newCapacity_0f7a4_1 : decode cJ5_newCapacity_0f7a4 1 = .ok (.getfield 15, 3) := by decide +kernel
theorem dJ5_newCapacity_0f7a4_4 : decode cJ5_newCapacity_0f7a4 4 = .ok (.arraylength, 1) := by decide +kernel
theorem dJ5_newCapacity_0f7a4_5 : decode cJ5_newCapacity_0f7a4 5 = .ok (.istore_n 2, 1) := by decide +kernel
theorem dJ5_newCapacity_0f7a4_6 : decode cJ5_newCapacity_0f7a4 6 = .ok (.iload_n 1, 1) := by decide +kernel
theorem dJ5_newCapacity_0f7a4_7 : decode cJ5_newCapacity_0f7a4 7 = .ok (.aload_n 0, 1) := by decide +kernel
theorem dJ5_newCapacity_0f7a4_8 : decode cJ5_newCapacity_0f7a4 8 = .ok (.getfield 22, 3) := by decide +kernel
theorem dJ5_newCapacity_0f7a4_11 : decode cJ5_newCapacity_0f7a4 11 = .ok (.ishl, 1) := by decide +kernel
theorem dJ5_newCapacity_0f7a4_12 : decode cJ5_newCapacity_0f7a4 12 = .ok (.istore_n 3, 1) := by decide +kernel
theorem dJ5_newCapacity_0f7a4_13 : decode cJ5_newCapacity_0f7a4 13 = .ok (.iload_n 3, 1) := by decide +kernel
theorem dJ5_newCapacity_0f7a4_14 : decode cJ5_newCapacity_0f7a4 14 = .ok (.iload_n 2, 1) := by decide +kernel
theorem dJ5_newCapacity_0f7a4_15 : decode cJ5_newCapacity_0f7a4 15 = .ok (.isub, 1) := by decide +kernel
theorem dJ5_newCapacity_0f7a4_16 : decode cJ5_newCapacity_0f7a4 16 = .ok (.istore 4, 2) := by decide +kernel
theorem dJ5_newCapacity_0f7a4_18 : decode cJ5_newCapacity_0f7a4 18 = .ok (.iload_n 2, 1) := by decide +kernel
theorem dJ5_newCapacity_0f7a4_19 : decode cJ5_newCapacity_0f7a4 19 = .ok (.iload 4, 2) := by decide +kernel
theorem dJ5_newCapacity_0f7a4_21 : decode cJ5_newCapacity_0f7a4 21 = .ok (.iload_n 2, 1) := by decide +kernel
theorem dJ5_newCapacity_0f7a4_22 : decode cJ5_newCapacity_0f7a4 22 = .ok (.iconst 2, 1) := by decide +kernel
theorem dJ5_newCapacity_0f7a4_23 : decode cJ5_newCapacity_0f7a4 23 = .ok (.aload_n 0, 1) := by decide +kernel
theorem dJ5_newCapacity_0f7a4_24 : decode cJ5_newCapacity_0f7a4 24 = .ok (.getfield 22, 3) := by decide +kernel
theorem dJ5_newCapacity_0f7a4_27 : decode cJ5_newCapacity_0f7a4 27 = .ok (.ishl, 1) := by decide +kernel
theorem dJ5_newCapacity_0f7a4_28 : decode cJ5_newCapacity_0f7a4 28 = .ok (.iadd, 1) := by decide +kernel
theorem dJ5_newCapacity_0f7a4_29 : decode cJ5_newCapacity_0f7a4 29 = .ok (.invokestatic 114, 3) := by decide +kernel
theorem dJ5_newCapacity_0f7a4_32 : decode cJ5_newCapacity_0f7a4 32 = .ok (.istore 5, 2) := by decide +kernel
theorem dJ5_newCapacity_0f7a4_34 : decode cJ5_newCapacity_0f7a4 34 = .ok (.iload 5, 2) := by decide +kernel
theorem dJ5_newCapacity_0f7a4_36 : decode cJ5_newCapacity_0f7a4 36 = .ok (.ldc 39, 2) := by decide +kernel
theorem dJ5_newCapacity_0f7a4_38 : decode cJ5_newCapacity_0f7a4 38 = .ok (.if_icmp .ne 13, 3) := by decide +kernel
theorem dJ5_newCapacity_0f7a4_51 : decode cJ5_newCapacity_0f7a4 51 = .ok (.iload 5, 2) := by decide +kernel
theorem dJ5_newCapacity_0f7a4_53 : decode cJ5_newCapacity_0f7a4 53 = .ok (.aload_n 0, 1) := by decide +kernel
theorem dJ5_newCapacity_0f7a4_54 : decode cJ5_newCapacity_0f7a4 54 = .ok (.getfield 22, 3) := by decide +kernel
theorem dJ5_newCapacity_0f7a4_57 : decode cJ5_newCapacity_0f7a4 57 = .ok (.ishr, 1) := by decide +kernel
theorem dJ5_newCapacity_0f7a4_58 : decode cJ5_newCapacity_0f7a4 58 = .ok (.ireturn, 1) := by decide +kernel
theorem dJ5_setLength_d00df_0 : decode cJ5_setLength_d00df 0 = .ok (.iload_n 1, 1) := by decide +kernel
theorem dJ5_setLength_d00df_1 : decode cJ5_setLength_d00df 1 = .ok (.ifCond .ge 12, 3) := by decide +kernel
theorem dJ5_setLength_d00df_13 : decode cJ5_setLength_d00df 13 = .ok (.aload_n 0, 1) := by decide +kernel
theorem dJ5_setLength_d00df_14 : decode cJ5_setLength_d00df 14 = .ok (.iload_n 1, 1) := by decide +kernel
theorem dJ5_setLength_d00df_15 : decode cJ5_setLength_d00df 15 = .ok (.invokevirtual 100, 3) := by decide +kernel
theorem dJ5_setLength_d00df_18 : decode cJ5_setLength_d00df 18 = .ok (.aload_n 0, 1) := by decide +kernel
theorem dJ5_setLength_d00df_19 : decode cJ5_setLength_d00df 19 = .ok (.getfield 79, 3) := by decide +kernel
theorem dJ5_setLength_d00df_22 : decode cJ5_setLength_d00df 22 = .ok (.iload_n 1, 1) := by decide +kernel
theorem dJ5_setLength_d00df_23 : decode cJ5_setLength_d00df 23 = .ok (.if_icmp .ge 40, 3) := by decide +kernel
theorem dJ5_setLength_d00df_63 : decode cJ5_setLength_d00df 63 = .ok (.aload_n 0, 1) := by decide +kernel
theorem dJ5_setLength_d00df_64 : decode cJ5_setLength_d00df 64 = .ok (.getfield 79, 3) := by decide +kernel
theorem dJ5_setLength_d00df_67 : decode cJ5_setLength_d00df 67 = .ok (.iload_n 1, 1) := by decide +kernel
theorem dJ5_setLength_d00df_68 : decode cJ5_setLength_d00df 68 = .ok (.if_icmp .le 8, 3) := by decide +kernel
theorem dJ5_setLength_d00df_71 : decode cJ5_setLength_d00df 71 = .ok (.aload_n 0, 1) := by decide +kernel
theorem dJ5_setLength_d00df_72 : decode cJ5_setLength_d00df 72 = .ok (.iconst 1, 1) := by decide +kernel
theorem dJ5_setLength_d00df_73 : decode cJ5_setLength_d00df 73 = .ok (.putfield 73, 3) := by decide +kernel
theorem dJ5_setLength_d00df_76 : decode cJ5_setLength_d00df 76 = .ok (.aload_n 0, 1) := by decide +kernel
theorem dJ5_setLength_d00df_77 : decode cJ5_setLength_d00df 77 = .ok (.iload_n 1, 1) := by decide +kernel
theorem dJ5_setLength_d00df_78 : decode cJ5_setLength_d00df 78 = .ok (.putfield 79, 3) := by decide +kernel
theorem dJ5_setLength_d00df_81 : decode cJ5_setLength_d00df 81 = .ok (.return_, 1) := by decide +kernel
theorem dJ5_append_3fe6f_0 : decode cJ5_append_3fe6f 0 = .ok (.aload_n 0, 1) := by decide +kernel
theorem dJ5_append_3fe6f_1 : decode cJ5_append_3fe6f 1 = .ok (.aload_n 0, 1) := by decide +kernel
theorem dJ5_append_3fe6f_2 : decode cJ5_append_3fe6f 2 = .ok (.getfield 79, 3) := by decide +kernel
theorem dJ5_append_3fe6f_5 : decode cJ5_append_3fe6f 5 = .ok (.iconst 1, 1) := by decide +kernel
theorem dJ5_append_3fe6f_6 : decode cJ5_append_3fe6f 6 = .ok (.iadd, 1) := by decide +kernel
theorem dJ5_append_3fe6f_7 : decode cJ5_append_3fe6f 7 = .ok (.invokevirtual 100, 3) := by decide +kernel
theorem dJ5_append_3fe6f_10 : decode cJ5_append_3fe6f 10 = .ok (.aload_n 0, 1) := by decide +kernel
theorem dJ5_append_3fe6f_11 : decode cJ5_append_3fe6f 11 = .ok (.invokevirtual 83, 3) := by decide +kernel
theorem dJ5_append_3fe6f_14 : decode cJ5_append_3fe6f 14 = .ok (.ifCond .eq 31, 3) := by decide +kernel
theorem dJ5_append_3fe6f_17 : decode cJ5_append_3fe6f 17 = .ok (.iload_n 1, 1) := by decide +kernel
theorem dJ5_append_3fe6f_18 : decode cJ5_append_3fe6f 18 = .ok (.invokestatic 191, 3) := by decide +kernel
theorem dJ5_append_3fe6f_21 : decode cJ5_append_3fe6f 21 = .ok (.ifCond .eq 24, 3) := by decide +kernel
theorem dJ5_append_3fe6f_24 : decode cJ5_append_3fe6f 24 = .ok (.aload_n 0, 1) := by decide +kernel
theorem dJ5_append_3fe6f_25 : decode cJ5_append_3fe6f 25 = .ok (.getfield 15, 3) := by decide +kernel
theorem dJ5_append_3fe6f_28 : decode cJ5_append_3fe6f 28 = .ok (.aload_n 0, 1) := by decide +kernel
theorem dJ5_append_3fe6f_29 : decode cJ5_append_3fe6f 29 = .ok (.dup, 1) := by decide +kernel
theorem dJ5_append_3fe6f_30 : decode cJ5_append_3fe6f 30 = .ok (.getfield 79, 3) := by decide +kernel
theorem dJ5_append_3fe6f_33 : decode cJ5_append_3fe6f 33 = .ok (.dup_x1, 1) := by decide +kernel
theorem dJ5_append_3fe6f_34 : decode cJ5_append_3fe6f 34 = .ok (.iconst 1, 1) := by decide +kernel
theorem dJ5_append_3fe6f_35 : decode cJ5_append_3fe6f 35 = .ok (.iadd, 1) := by decide +kernel
theorem dJ5_append_3fe6f_36 : decode cJ5_append_3fe6f 36 = .ok (.putfield 79, 3) := by decide +kernel
theorem dJ5_append_3fe6f_39 : decode cJ5_append_3fe6f 39 = .ok (.iload_n 1, 1) := by decide +kernel
theorem dJ5_append_3fe6f_40 : decode cJ5_append_3fe6f 40 = .ok (.i2b, 1) := by decide +kernel
theorem dJ5_append_3fe6f_41 : decode cJ5_append_3fe6f 41 = .ok (.bastore, 1) := by decide +kernel
theorem dJ5_append_3fe6f_42 : decode cJ5_append_3fe6f 42 = .ok (.goto 33, 3) := by decide +kernel
theorem dJ5_append_3fe6f_75 : decode cJ5_append_3fe6f 75 = .ok (.aload_n 0, 1) := by decide +kernel
theorem dJ5_append_3fe6f_76 : decode cJ5_append_3fe6f 76 = .ok (.areturn, 1) := by decide +kernel
theorem dJ5_isLatin1_aae02_0 : decode cJ5_isLatin1_aae02 0 = .ok (.getstatic 18, 3) := by decide +kernel
theorem dJ5_isLatin1_aae02_3 : decode cJ5_isLatin1_aae02 3 = .ok (.ifCond .eq 14, 3) := by decide +kernel
theorem dJ5_isLatin1_aae02_6 : decode cJ5_isLatin1_aae02 6 = .ok (.aload_n 0, 1) := by decide +kernel
theorem dJ5_isLatin1_aae02_7 : decode cJ5_isLatin1_aae02 7 = .ok (.getfield 22, 3) := by decide +kernel
theorem dJ5_isLatin1_aae02_10 : decode cJ5_isLatin1_aae02 10 = .ok (.ifCond .ne 7, 3) := by decide +kernel
theorem dJ5_isLatin1_aae02_13 : decode cJ5_isLatin1_aae02 13 = .ok (.iconst 1, 1) := by decide +kernel
theorem dJ5_isLatin1_aae02_14 : decode cJ5_isLatin1_aae02 14 = .ok (.goto 4, 3) := by decide +kernel
theorem dJ5_isLatin1_aae02_18 : decode cJ5_isLatin1_aae02 18 = .ok (.ireturn, 1) := by decide +kernel
theorem dJ4_append_cf468_0 : decode cJ4_append_cf468 0 = .ok (.aload_n 0, 1) := by decide +kernel
theorem dJ4_append_cf468_1 : decode cJ4_append_cf468 1 = .ok (.iload_n 1, 1) := by decide +kernel
theorem dJ4_append_cf468_2 : decode cJ4_append_cf468 2 = .ok (.invokespecial 50, 3) := by decide +kernel
theorem dJ4_append_cf468_5 : decode cJ4_append_cf468 5 = .ok (.pop, 1) := by decide +kernel
theorem dJ4_append_cf468_6 : decode cJ4_append_cf468 6 = .ok (.aload_n 0, 1) := by decide +kernel
theorem dJ4_append_cf468_7 : decode cJ4_append_cf468 7 = .ok (.areturn, 1) := by decide +kernel
theorem dJ4_setLength_d00df_0 : decode cJ4_setLength_d00df 0 = .ok (.aload_n 0, 1) := by decide +kernel
theorem dJ4_setLength_d00df_1 : decode cJ4_setLength_d00df 1 = .ok (.iload_n 1, 1) := by decide +kernel
theorem dJ4_setLength_d00df_2 : decode cJ4_setLength_d00df 2 = .ok (.invokespecial 333, 3) := by decide +kernel
theorem dJ4_setLength_d00df_5 : decode cJ4_setLength_d00df 5 = .ok (.return_, 1) := by decide +kernel
def EJ1_canEncode_fc78dK : List (Nat × Nat) := []
def EJ5_isLatin1_aae02 : List (Nat × Nat) := []
def EJ5_newCapacity_0f7a4 : List (Nat × Nat) := []
def EJ5_ensureCapacityInternal_d00df : List (Nat × Nat) := []
def EJ5_setLength_d00df : List (Nat × Nat) := [(0, 2), (0, 3)]
def EJ4_setLength_d00df : List (Nat × Nat) := [(0, 2), (0, 3)]
set_option maxHeartbeats 4000000 in
set_option maxRecDepth 20000 in
theorem uJ1_canEncode_fc78dK (l : Launch) (dC : Nat → ClassId) (dI : Nat → Nat → Nat) (ca : Nat → ClassId) (base : Nat) (B : jF) (hB : jBok B) (hAp : jAp (dC, dI)) (G0 : jT) (H0 : Heap) (a0 : Int32) : Met l yJ1_canEncode_fc78d (jw yJ1_canEncode_fc78d cJ1_canEncode_fc78d 1 (some .boolean)) ({ frames := 0, cells := 0, slots := 0, locals := 0 }) (va_Pc [.int a0] (fun U => U.heap = H0 ∧ jX B base G0 [] H0 ∧ jG dC dI ca base U ∧ jP (dC, dI) G0 H0 [] ∧ 0 ≤ a0.toInt ∧ a0.toInt ≤ 255)) (va_Qi (S := Unit) (fun r u => (r = 0 ∨ r = 1) ∧ (r.toInt = 1)) (fun u t => jRt (dC, dI) B base G0 EJ1_canEncode_fc78dK H0 [] t.heap) (jA base)) 0 0 (jA base) := by
  refine Met.ofW (cc := cJ1_canEncode_fc78d) (maxL := 1) (ret := (some .boolean)) (by decide) rfl ?_
  intro p e s m args below meth c s₁ Bd hml hv
  obtain ⟨rfl, hH0, hX, hG, hP0, hp0, hp1⟩ := hv
  have hK := hG.1
  have hx := Bd.exec
  have hb := Bd.bytes
  have hr := Bd.returns
  have hts := atoms_spec (ws := (jw yJ1_canEncode_fc78d cJ1_canEncode_fc78d 1 (some .boolean))) Bd.pre
  have htw : ∀ w ∈ jWl, w.before _ s = true := fun w h => hts w (List.mem_cons_of_mem _ h)
  have hown : s.vm.findClass RJ1 = some m.cls := findClass_of_methodNamed Bd.named
  have hlocks := Bd.notSynchronized
  obtain ⟨Q, hQ⟩ : ∃ Q, Q = MQ below (va_Qi (S := Unit) (fun r u => (r = 0 ∨ r = 1) ∧ (r.toInt = 1)) (fun u t => jRt (dC, dI) B base G0 EJ1_canEncode_fc78dK H0 [] t.heap) (jA base)) ([.int a0] : List Value).toArray s 0 0 (jA base) := ⟨_, rfl⟩
  rw [← hQ]
  have hl := lv_entry ([.int a0]) (n := 1) (Nat.le_of_ble_eq_true rfl)
  rw [lg_entry_eq]
  generalize (lg_sl ([.int a0]) ++ List.replicate (1 - (lg_sl ([.int a0])).length) Slot.unset).toArray = ls at hl ⊢
  have hl : lv_has ls 1 [(0, .int a0)] := hl
  generalize hR : (headSpec (jw yJ1_canEncode_fc78d cJ1_canEncode_fc78d 1 (some .boolean)) ({ frames := 0, cells := 0, slots := 0, locals := 0 })).room = R
  subst hH0
  have hh : jSt (dC, dI) B base G0 G0 EJ1_canEncode_fc78dK s.heap 0 0 [] [] [] s.heap [] := jSt.start hX hP0 jMc.nil jIs.nil
  clear hX hP0
  have hk0 : (0 : Int32).toInt = 0 := by decide
  have hk1 : (1 : Int32).toInt = 1 := by decide
  have hk255 : (255 : Int32).toInt = 255 := by decide
  have hrg_a0 := jb_rng a0
  refine lv_iload_n hx hb dJ1_canEncode_fc78d_0 rfl (lv_at hl 0 rfl) ?_
  refine lv_sipush (v := 255) hx hb dJ1_canEncode_fc78d_1 (by decide) ?_
  refine lv_icmp_gt (tgt := 11) hx hb dJ1_canEncode_fc78d_4 (by decide) (fun c_1 => ?_) (fun c_1 => ?_)
  · skip
    have c_1' : a0.toInt > 255 := jb_gt (rfl) ((by decide)) c_1
    refine lv_iconst (v := 0) hx hb dJ1_canEncode_fc78d_11 (by decide) ?_
    rw [hQ]
    exact W.zret (v := 0) hx hb hr (jb_nz (Or.inl rfl)) (fun t ht hW => ⟨⟨0, (), rfl, ⟨(Or.inl rfl), by first | omega | rfl | assumption | decide | exact Or.inl rfl | exact Or.inr rfl | (simp only; omega)⟩, hh.rt (M1 := []) [] rfl ht⟩, by rw [ht]; try exact hh.1.1, fun q h9 hq => by rw [ht]; try exact hh.1.2.1 q h9 hq⟩) hh.1.2.2 dJ1_canEncode_fc78d_12
  · skip
    have c_1' : a0.toInt ≤ 255 := jb_gt_n (rfl) ((by decide)) c_1
    refine lv_iconst (v := 1) hx hb dJ1_canEncode_fc78d_7 (by decide) ?_
    refine lv_goto (tgt := 12) hx hb dJ1_canEncode_fc78d_8 (by decide) ?_
    rw [hQ]
    exact W.zret (v := 1) hx hb hr (jb_nz (Or.inr rfl)) (fun t ht hW => ⟨⟨1, (), rfl, ⟨(Or.inr rfl), by first | omega | rfl | assumption | decide | exact Or.inl rfl | exact Or.inr rfl | (simp only; omega)⟩, hh.rt (M1 := []) [] rfl ht⟩, by rw [ht]; try exact hh.1.1, fun q h9 hq => by rw [ht]; try exact hh.1.2.1 q h9 hq⟩) hh.1.2.2 dJ1_canEncode_fc78d_12
set_option maxHeartbeats 4000000 in
set_option maxRecDepth 20000 in
theorem uJ5_isLatin1_aae02 (l : Launch) (dC : Nat → ClassId) (dI : Nat → Nat → Nat) (ca : Nat → ClassId) (base : Nat) (B : jF) (hB : jBok B) (hAp : jAp (dC, dI)) (hB0 : ∀ n G a H, B 0 n G a H ↔ jOb (dC, dI) 0 4 (Fz0 n G) a H) (G0 : jT) (H0 : Heap) (r0 : Nat) : Met l yJ5_isLatin1_aae02 (jw yJ5_isLatin1_aae02 cJ5_isLatin1_aae02 1 (some .boolean)) ({ frames := 0, cells := 0, slots := 0, locals := 0 }) (va_Pc [.ref r0] (fun U => U.heap = H0 ∧ jX B base G0 [] H0 ∧ jG dC dI ca base U ∧ G0 r0 = some (0, 0) ∧ jP (dC, dI) G0 H0 [] ∧ True)) (va_Qi (S := Unit) (fun r u => (r = 0 ∨ r = 1) ∧ (r.toInt = 1)) (fun u t => jRt (dC, dI) B base G0 EJ5_isLatin1_aae02 H0 [] t.heap) (jA base)) 0 0 (jA base) := by
  refine Met.ofW (cc := cJ5_isLatin1_aae02) (maxL := 1) (ret := (some .boolean)) (by decide) rfl ?_
  intro p e s m args below meth c s₁ Bd hml hv
  obtain ⟨rfl, hH0, hX, hG, hg_r0, hP0, hp0⟩ := hv
  have hK := hG.1
  have hx := Bd.exec
  have hb := Bd.bytes
  have hr := Bd.returns
  have hts := atoms_spec (ws := (jw yJ5_isLatin1_aae02 cJ5_isLatin1_aae02 1 (some .boolean))) Bd.pre
  have htw : ∀ w ∈ jWl, w.before _ s = true := fun w h => hts w (List.mem_cons_of_mem _ h)
  have hown : s.vm.findClass RJ5 = some m.cls := findClass_of_methodNamed Bd.named
  have hlocks := Bd.notSynchronized
  obtain ⟨Q, hQ⟩ : ∃ Q, Q = MQ below (va_Qi (S := Unit) (fun r u => (r = 0 ∨ r = 1) ∧ (r.toInt = 1)) (fun u t => jRt (dC, dI) B base G0 EJ5_isLatin1_aae02 H0 [] t.heap) (jA base)) ([.ref r0] : List Value).toArray s 0 0 (jA base) := ⟨_, rfl⟩
  rw [← hQ]
  have hl := lv_entry ([.ref r0]) (n := 1) (Nat.le_of_ble_eq_true rfl)
  rw [lg_entry_eq]
  generalize (lg_sl ([.ref r0]) ++ List.replicate (1 - (lg_sl ([.ref r0])).length) Slot.unset).toArray = ls at hl ⊢
  have hl : lv_has ls 1 [(0, .ref r0)] := hl
  generalize hR : (headSpec (jw yJ5_isLatin1_aae02 cJ5_isLatin1_aae02 1 (some .boolean)) ({ frames := 0, cells := 0, slots := 0, locals := 0 })).room = R
  subst hH0
  have hh : jSt (dC, dI) B base G0 G0 EJ5_isLatin1_aae02 s.heap 0 0 [] [] [] s.heap [] := jSt.start hX hP0 jMc.nil jIs.nil
  clear hX hP0
  have hk0 : (0 : Int32).toInt = 0 := by decide
  have hk1 : (1 : Int32).toInt = 1 := by decide
  have hly_0_1 := htw (u_lay RJ4 TJ4 1) (jWc_wsJ40 _ (u_in_lay (by decide)))
  have hlk_22 := (htw (.fieldLink RJ5 22 "java/lang/AbstractStringBuilder" "coder" "B") (jWr_13 _ (List.mem_of_getElem? (i := 12) rfl)))
  refine va_gets hx hb hG.2.2.2.2.1 hh.1 hown (htw (.fieldLink RJ5 18 "java/lang/String" "COMPACT_STRINGS" "Z") (jWr_13 _ (List.mem_of_getElem? (i := 10) rfl))) (fun _ h9 => h9) dJ5_isLatin1_aae02_0 ?_
  refine lv_if_eq (tgt := 17) hx hb dJ5_isLatin1_aae02_3 (by decide) (fun c_2 => ?_) (fun c_2 => ?_)
  · skip
    exact absurd c_2 (by decide)
  · skip
    refine lv_aload_n hx hb dJ5_isLatin1_aae02_6 rfl (lv_at hl 0 rfl) ?_
    obtain ⟨v_3, hv_3, hh_4⟩ := hh.pin (C := RJ4) (T := TJ4) (N := 4) hB0 rfl (by decide) hg_r0 (i := 1) (by decide) rfl
    clear hh
    obtain ⟨coder_5, rfl, hlocoder_5, hhicoder_5⟩ := hv_3
    obtain rfl : coder_5 = 0 := Int32.toInt_inj.mp (by rw [show (0 : Int32).toInt = 0 by decide]; omega)
    refine j7_read hx hb hown hK (C := RJ4) (T := TJ4) (N := 4) rfl hly_0_1 hlk_22 (hh_4.at 0 rfl) dJ5_isLatin1_aae02_7 ?_
    refine lv_if_ne (tgt := 17) hx hb dJ5_isLatin1_aae02_10 (by decide) (fun c_6 => ?_) (fun c_6 => ?_)
    · skip
      exact absurd c_6 (by decide)
    · skip
      refine lv_iconst (v := 1) hx hb dJ5_isLatin1_aae02_13 (by decide) ?_
      refine lv_goto (tgt := 18) hx hb dJ5_isLatin1_aae02_14 (by decide) ?_
      rw [hQ]
      exact W.zret (v := 1) hx hb hr (jb_nz (Or.inr rfl)) (fun t ht hW => ⟨⟨1, (), rfl, ⟨(Or.inr rfl), by first | omega | rfl | assumption | decide | exact Or.inl rfl | exact Or.inr rfl | (simp only; omega)⟩, hh_4.rt (M1 := []) [] rfl ht⟩, by rw [ht]; try exact hh_4.1.1, fun q h9 hq => by rw [ht]; try exact hh_4.1.2.1 q h9 hq⟩) hh_4.1.2.2 dJ5_isLatin1_aae02_18
set_option maxHeartbeats 4000000 in
set_option maxRecDepth 20000 in
theorem uJ5_newCapacity_0f7a4 (l : Launch) (dC : Nat → ClassId) (dI : Nat → Nat → Nat) (ca : Nat → ClassId) (base : Nat) (B : jF) (hB : jBok B) (hAp : jAp (dC, dI)) (hB0 : ∀ n G a H, B 0 n G a H ↔ jOb (dC, dI) 0 4 (Fz0 n G) a H) (hB196 : ∀ n G a H, B 196 n G a H ↔ jAr (dC, dI) (ca 0) (fun j z => jBf j z) n a H) (G0 : jT) (H0 : Heap) (r0 : Nat) (a1 : Int32) (pc : Int32) (pa : Nat) (n_pa : Nat) : Met l yJ5_newCapacity_0f7a4 (jw yJ5_newCapacity_0f7a4 cJ5_newCapacity_0f7a4 6 (some .int)) ({ frames := 2, cells := 0, slots := 0, locals := 55 }) (va_Pc [.ref r0, .int a1] (fun U => U.heap = H0 ∧ jX B base G0 [] H0 ∧ jG dC dI ca base U ∧ G0 r0 = some (0, 0) ∧ G0 pa = some (196, n_pa) ∧ jP (dC, dI) G0 H0 [(r0, 0, 3, .int pc), (r0, 0, 0, .ref pa)] ∧ n_pa ≤ 1000 ∧ n_pa < a1.toInt ∧ a1.toInt ≤ 1001)) (va_Qi (S := Unit) (fun r u => (a1.toInt ≤ r.toInt ∧ n_pa + n_pa + 2 ≤ r.toInt ∧ (r.toInt ≤ a1.toInt ∨ r.toInt ≤ n_pa + n_pa + 2))) (fun u t => jRt (dC, dI) B base G0 EJ5_newCapacity_0f7a4 H0 [] t.heap) (jA base)) 0 0 (jA base) := by
  refine Met.ofW (cc := cJ5_newCapacity_0f7a4) (maxL := 6) (ret := (some .int)) (by decide) rfl ?_
  intro p e s m args below meth c s₁ Bd hml hv
  obtain ⟨rfl, hH0, hX, hG, hg_r0, hg_pa, hP0, hp0, hp1, hp2⟩ := hv
  have hK := hG.1
  have hx := Bd.exec
  have hb := Bd.bytes
  have hr := Bd.returns
  have hts := atoms_spec (ws := (jw yJ5_newCapacity_0f7a4 cJ5_newCapacity_0f7a4 6 (some .int))) Bd.pre
  have htw : ∀ w ∈ jWl, w.before _ s = true := fun w h => hts w (List.mem_cons_of_mem _ h)
  have hown : s.vm.findClass RJ5 = some m.cls := findClass_of_methodNamed Bd.named
  have hlocks := Bd.notSynchronized
  obtain ⟨Q, hQ⟩ : ∃ Q, Q = MQ below (va_Qi (S := Unit) (fun r u => (a1.toInt ≤ r.toInt ∧ n_pa + n_pa + 2 ≤ r.toInt ∧ (r.toInt ≤ a1.toInt ∨ r.toInt ≤ n_pa + n_pa + 2))) (fun u t => jRt (dC, dI) B base G0 EJ5_newCapacity_0f7a4 H0 [] t.heap) (jA base)) ([.ref r0, .int a1] : List Value).toArray s 0 0 (jA base) := ⟨_, rfl⟩
  rw [← hQ]
  have hl := lv_entry ([.ref r0, .int a1]) (n := 6) (Nat.le_of_ble_eq_true rfl)
  rw [lg_entry_eq]
  generalize (lg_sl ([.ref r0, .int a1]) ++ List.replicate (6 - (lg_sl ([.ref r0, .int a1])).length) Slot.unset).toArray = ls at hl ⊢
  have hl : lv_has ls 6 [(0, .ref r0), (1, .int a1)] := hl
  generalize hR : (headSpec (jw yJ5_newCapacity_0f7a4 cJ5_newCapacity_0f7a4 6 (some .int)) ({ frames := 2, cells := 0, slots := 0, locals := 55 })).room = R
  subst hH0
  have hh : jSt (dC, dI) B base G0 G0 EJ5_newCapacity_0f7a4 s.heap 0 0 [(r0, 0, 3, .int pc), (r0, 0, 0, .ref pa)] [] [] s.heap [] := jSt.start hX hP0 jMc.nil jIs.nil
  clear hX hP0
  have hk0 : (0 : Int32).toInt = 0 := by decide
  have hk1 : (1 : Int32).toInt = 1 := by decide
  have hk2 : (2 : Int32).toInt = 2 := by decide
  have hk2147483647 : (2147483647 : Int32).toInt = 2147483647 := by decide
  have hly_0_0 := htw (u_lay RJ4 TJ4 0) (jWc_wsJ40 _ (u_in_lay (by decide)))
  have hly_0_1 := htw (u_lay RJ4 TJ4 1) (jWc_wsJ40 _ (u_in_lay (by decide)))
  have hlk_15 := (htw (.fieldLink RJ5 15 "java/lang/AbstractStringBuilder" "value" "[B") (jWr_13 _ (List.mem_of_getElem? (i := 11) rfl)))
  have hlk_22 := (htw (.fieldLink RJ5 22 "java/lang/AbstractStringBuilder" "coder" "B") (jWr_13 _ (List.mem_of_getElem? (i := 12) rfl)))
  have hcs_39 := htw (.constant RJ5 39 2147483647) (jWr_45 _ (List.mem_of_getElem? (i := 21) rfl))
  have hrg_a1 := jb_rng a1
  refine lv_aload_n hx hb dJ5_newCapacity_0f7a4_0 rfl (lv_at hl 0 rfl) ?_
  refine j7_read hx hb hown hK (C := RJ4) (T := TJ4) (N := 4) rfl hly_0_0 hlk_15 (hh.at 1 rfl) dJ5_newCapacity_0f7a4_1 ?_
  refine j7_len hx hb hK hh hB196 0 rfl (by decide) hg_pa (by omega) dJ5_newCapacity_0f7a4_4 (fun z_1 hz_1 => ?_)
  refine lv_istore_n (lv' := [(2, .int z_1), (0, .ref r0), (1, .int a1)]) hx hb dJ5_newCapacity_0f7a4_5 rfl hl (by decide) rfl (fun ls hl => ?_)
  refine lv_iload_n hx hb dJ5_newCapacity_0f7a4_6 rfl (lv_at hl 2 rfl) ?_
  refine lv_aload_n hx hb dJ5_newCapacity_0f7a4_7 rfl (lv_at hl 1 rfl) ?_
  obtain ⟨v_2, hv_2, hh_3⟩ := hh.pin (C := RJ4) (T := TJ4) (N := 4) hB0 rfl (by decide) hg_r0 (i := 1) (by decide) rfl
  clear hh
  obtain ⟨coder_4, rfl, hlocoder_4, hhicoder_4⟩ := hv_2
  obtain rfl : coder_4 = 0 := Int32.toInt_inj.mp (by rw [show (0 : Int32).toInt = 0 by decide]; omega)
  refine j7_read hx hb hown hK (C := RJ4) (T := TJ4) (N := 4) rfl hly_0_1 hlk_22 (hh_3.at 0 rfl) dJ5_newCapacity_0f7a4_8 ?_
  refine lv_ishl hx hb dJ5_newCapacity_0f7a4_11 ?_
  refine lv_topi (fun z_5 ez_5 => ?_)
  have hz_5 : z_5.toInt = a1.toInt := by rw [ez_5, jb_shl0]; try exact rfl
  refine lv_istore_n (lv' := [(3, .int z_5), (2, .int z_1), (0, .ref r0), (1, .int a1)]) hx hb dJ5_newCapacity_0f7a4_12 rfl hl (by decide) rfl (fun ls hl => ?_)
  refine lv_iload_n hx hb dJ5_newCapacity_0f7a4_13 rfl (lv_at hl 0 rfl) ?_
  refine lv_iload_n hx hb dJ5_newCapacity_0f7a4_14 rfl (lv_at hl 1 rfl) ?_
  refine lv_isub hx hb dJ5_newCapacity_0f7a4_15 ?_
  refine lv_topi (fun z_6 ez_6 => ?_)
  have hz_6 : z_6.toInt = z_5.toInt - z_1.toInt := by rw [ez_6]; exact jb_isub2 (rfl) (rfl) (by omega)
  refine lv_istore (lv' := [(4, .int z_6), (3, .int z_5), (2, .int z_1), (0, .ref r0), (1, .int a1)]) hx hb dJ5_newCapacity_0f7a4_16 hl (by decide) rfl (fun ls hl => ?_)
  refine lv_iload_n hx hb dJ5_newCapacity_0f7a4_18 rfl (lv_at hl 2 rfl) ?_
  refine lv_iload hx hb dJ5_newCapacity_0f7a4_19 (lv_at hl 0 rfl) ?_
  refine lv_iload_n hx hb dJ5_newCapacity_0f7a4_21 rfl (lv_at hl 2 rfl) ?_
  refine lv_iconst (v := 2) hx hb dJ5_newCapacity_0f7a4_22 (by decide) ?_
  refine lv_aload_n hx hb dJ5_newCapacity_0f7a4_23 rfl (lv_at hl 3 rfl) ?_
  refine j7_read hx hb hown hK (C := RJ4) (T := TJ4) (N := 4) rfl hly_0_1 hlk_22 (hh_3.at 0 rfl) dJ5_newCapacity_0f7a4_24 ?_
  refine lv_ishl hx hb dJ5_newCapacity_0f7a4_27 ?_
  refine lv_topi (fun z_7 ez_7 => ?_)
  have hz_7 : z_7.toInt = 2 := by rw [ez_7, jb_shl0]; try exact (by decide)
  refine lv_iadd hx hb dJ5_newCapacity_0f7a4_28 ?_
  refine lv_topi (fun z_8 ez_8 => ?_)
  have hz_8 : z_8.toInt = z_1.toInt + z_7.toInt := by rw [ez_8]; exact jb_iadd2 (rfl) (rfl) (by omega)
  refine va_calli (A0 := jA base) (H0 := s.heap) (va_runS (As := [.int z_1, .int z_6, .int z_8]) (rest := []) ⟨hx, hb, hml, hown, hts⟩ (uJ8_newLength_cabcc l dC dI ca base B hB hAp G0 s.heap z_1 z_6 z_8) (va_cwS 3 hts (jgS (jWr_45 _ (List.mem_of_getElem? (i := 22) rfl)) (jWr_34 _ (List.mem_of_getElem? (i := 4) rfl)) (jWr_34 _ (List.mem_of_getElem? (i := 5) rfl)) (jWr_34 _ (List.mem_of_getElem? (i := 6) rfl))) rfl rfl rfl (by decide +kernel) ⟨by rw [← hR]; exact Nat.le_of_ble_eq_true rfl, by rw [← hR]; exact Nat.le_of_ble_eq_true rfl⟩) ⟨fun a U g mk q => by obtain ⟨q0, q1, q2, qK, q10, q11⟩ := q; exact ⟨q0, q1, q2, jG.calling g mk a qK, q10, q11⟩, fun U hU hW => ⟨rfl, hU, hh_3.2.1, hG.step hW hU hh_3.1, jP.nil, by first | omega | (refine ⟨?_, ?_, ?_, ?_, ?_, ?_⟩ <;> (first | omega | rfl | assumption | decide | exact Or.inl rfl | exact Or.inr rfl | (simp only; omega)))⟩⟩ rfl rfl hl.1 rfl (lv_room (Nat.le_of_ble_eq_true rfl)) dJ5_newCapacity_0f7a4_29 ⟨Nat.zero_le _, Nat.zero_le _⟩) hh_3.1 (fun q _ h => h) (fun q h => h) (fun r_10 u_9 t_9 H_9 locs_9 ht_9 hvm_9 hr_10 hb_9 hz_9 hk_9 hS_9 => ?_)
  rw [ht_9] at hb_9
  obtain ⟨hb_91, hb_92, hb_93, hb_94, hb_95⟩ := hb_9
  have hh_9 : jSt (dC, dI) B base G0 G0 EJ5_newCapacity_0f7a4 s.heap 0 0 [(r0, 0, 1, .int 0), (r0, 0, 3, .int pc), (r0, 0, 0, .ref pa)] [] [] H_9 locs_9 := ((hh_3.call hb_91 hb_92 hb_93 hb_94 hS_9 rfl (L1 := [(r0, 0, 1, .int 0), (r0, 0, 3, .int pc), (r0, 0, 0, .ref pa)]) [0, 1, 2] rfl rfl (M1 := []) [] rfl rfl (I1 := []) [] rfl rfl).more hb_95)
  clear hh_3 ht_9 hvm_9 hz_9 hk_9 hS_9 hb_91 hb_92 hb_93 hb_94 hb_95
  obtain ⟨hr_10_0, hr_10_1, hr_10_2⟩ := hr_10
  refine lv_istore (lv' := [(5, .int r_10), (4, .int z_6), (3, .int z_5), (2, .int z_1), (0, .ref r0), (1, .int a1)]) hx hb dJ5_newCapacity_0f7a4_32 hl (by decide) rfl (fun ls hl => ?_)
  refine lv_iload hx hb dJ5_newCapacity_0f7a4_34 (lv_at hl 0 rfl) ?_
  refine lv_ldc hx hb hown hcs_39 dJ5_newCapacity_0f7a4_36 ?_
  refine lv_icmp_ne (tgt := 51) hx hb dJ5_newCapacity_0f7a4_38 (by decide) (fun c_11 => ?_) (fun c_11 => ?_)
  · skip
    have c_11' : r_10.toInt ≠ 2147483647 := jb_ne (rfl) ((by decide)) c_11
    refine lv_iload hx hb dJ5_newCapacity_0f7a4_51 (lv_at hl 0 rfl) ?_
    refine lv_aload_n hx hb dJ5_newCapacity_0f7a4_53 rfl (lv_at hl 4 rfl) ?_
    refine j7_read hx hb hown hK (C := RJ4) (T := TJ4) (N := 4) rfl hly_0_1 hlk_22 (hh_9.at 0 rfl) dJ5_newCapacity_0f7a4_54 ?_
    refine lv_ishr hx hb dJ5_newCapacity_0f7a4_57 ?_
    refine lv_topi (fun z_12 ez_12 => ?_)
    have hz_12 : z_12.toInt = r_10.toInt / 2 ^ 0 := by rw [ez_12]; exact jb_ishr 0 (rfl) (by decide)
    rw [hQ]
    exact W.iret (v := z_12) hx hb hr (fun t ht hW => ⟨⟨z_12, (), rfl, by first | omega | (refine ⟨?_, ?_, ?_⟩ <;> (first | omega | rfl | assumption | decide | exact Or.inl rfl | exact Or.inr rfl | (simp only; omega))), hh_9.rt (M1 := []) [] rfl ht⟩, by rw [ht]; try exact hh_9.1.1, fun q h9 hq => by rw [ht]; try exact hh_9.1.2.1 q h9 hq⟩) hh_9.1.2.2 dJ5_newCapacity_0f7a4_58
  · skip
    have c_11' : r_10.toInt = 2147483647 := jb_ne_n (rfl) ((by decide)) c_11
    exact absurd c_11' (by omega)
set_option maxHeartbeats 4000000 in
set_option maxRecDepth 20000 in
theorem uJ5_ensureCapacityInternal_d00df (l : Launch) (dC : Nat → ClassId) (dI : Nat → Nat → Nat) (ca : Nat → ClassId) (base : Nat) (B : jF) (hB : jBok B) (hAp : jAp (dC, dI)) (hB0 : ∀ n G a H, B 0 n G a H ↔ jOb (dC, dI) 0 4 (Fz0 n G) a H) (hB196 : ∀ n G a H, B 196 n G a H ↔ jAr (dC, dI) (ca 0) (fun j z => jBf j z) n a H) (G0 : jT) (H0 : Heap) (r0 : Nat) (a1 : Int32) (pc : Int32) (pa : Nat) (n_pa : Nat) : Met l yJ5_ensureCapacityInternal_d00df (jw yJ5_ensureCapacityInternal_d00df cJ5_ensureCapacityInternal_d00df 3 none) ({ frames := 3, cells := 0, slots := 0, locals := 80 }) (va_Pc [.ref r0, .int a1] (fun U => U.heap = H0 ∧ jX B base G0 [] H0 ∧ jG dC dI ca base U ∧ G0 r0 = some (0, 0) ∧ G0 pa = some (196, n_pa) ∧ jP (dC, dI) G0 H0 [(r0, 0, 3, .int pc), (r0, 0, 0, .ref pa)] ∧ 0 ≤ a1.toInt ∧ a1.toInt ≤ n_pa ∧ n_pa ≤ 1000)) (va_Qv (S := Unit) (fun u => True) (fun u t => jRt (dC, dI) B base G0 EJ5_ensureCapacityInternal_d00df H0 [] t.heap) (jA base)) 0 0 (jA base) := by
  refine Met.ofW (cc := cJ5_ensureCapacityInternal_d00df) (maxL := 3) (ret := none) (by decide) rfl ?_
  intro p e s m args below meth c s₁ Bd hml hv
  obtain ⟨rfl, hH0, hX, hG, hg_r0, hg_pa, hP0, hp0, hp1, hp2⟩ := hv
  have hK := hG.1
  have hx := Bd.exec
  have hb := Bd.bytes
  have hr := Bd.returns
  have hts := atoms_spec (ws := (jw yJ5_ensureCapacityInternal_d00df cJ5_ensureCapacityInternal_d00df 3 none)) Bd.pre
  have htw : ∀ w ∈ jWl, w.before _ s = true := fun w h => hts w (List.mem_cons_of_mem _ h)
  have hown : s.vm.findClass RJ5 = some m.cls := findClass_of_methodNamed Bd.named
  have hlocks := Bd.notSynchronized
  obtain ⟨Q, hQ⟩ : ∃ Q, Q = MQ below (va_Qv (S := Unit) (fun u => True) (fun u t => jRt (dC, dI) B base G0 EJ5_ensureCapacityInternal_d00df H0 [] t.heap) (jA base)) ([.ref r0, .int a1] : List Value).toArray s 0 0 (jA base) := ⟨_, rfl⟩
  rw [← hQ]
  have hl := lv_entry ([.ref r0, .int a1]) (n := 3) (Nat.le_of_ble_eq_true rfl)
  rw [lg_entry_eq]
  generalize (lg_sl ([.ref r0, .int a1]) ++ List.replicate (3 - (lg_sl ([.ref r0, .int a1])).length) Slot.unset).toArray = ls at hl ⊢
  have hl : lv_has ls 3 [(0, .ref r0), (1, .int a1)] := hl
  generalize hR : (headSpec (jw yJ5_ensureCapacityInternal_d00df cJ5_ensureCapacityInternal_d00df 3 none) ({ frames := 3, cells := 0, slots := 0, locals := 80 })).room = R
  subst hH0
  have hh : jSt (dC, dI) B base G0 G0 EJ5_ensureCapacityInternal_d00df s.heap 0 0 [(r0, 0, 3, .int pc), (r0, 0, 0, .ref pa)] [] [] s.heap [] := jSt.start hX hP0 jMc.nil jIs.nil
  clear hX hP0
  have hk0 : (0 : Int32).toInt = 0 := by decide
  have hk1 : (1 : Int32).toInt = 1 := by decide
  have hly_0_0 := htw (u_lay RJ4 TJ4 0) (jWc_wsJ40 _ (u_in_lay (by decide)))
  have hly_0_1 := htw (u_lay RJ4 TJ4 1) (jWc_wsJ40 _ (u_in_lay (by decide)))
  have hlk_15 := (htw (.fieldLink RJ5 15 "java/lang/AbstractStringBuilder" "value" "[B") (jWr_13 _ (List.mem_of_getElem? (i := 11) rfl)))
  have hlk_22 := (htw (.fieldLink RJ5 22 "java/lang/AbstractStringBuilder" "coder" "B") (jWr_13 _ (List.mem_of_getElem? (i := 12) rfl)))
  have hrg_a1 := jb_rng a1
  refine lv_aload_n hx hb dJ5_ensureCapacityInternal_d00df_0 rfl (lv_at hl 0 rfl) ?_
  refine j7_read hx hb hown hK (C := RJ4) (T := TJ4) (N := 4) rfl hly_0_0 hlk_15 (hh.at 1 rfl) dJ5_ensureCapacityInternal_d00df_1 ?_
  refine j7_len hx hb hK hh hB196 0 rfl (by decide) hg_pa (by omega) dJ5_ensureCapacityInternal_d00df_4 (fun z_1 hz_1 => ?_)
  refine lv_aload_n hx hb dJ5_ensureCapacityInternal_d00df_5 rfl (lv_at hl 0 rfl) ?_
  obtain ⟨v_2, hv_2, hh_3⟩ := hh.pin (C := RJ4) (T := TJ4) (N := 4) hB0 rfl (by decide) hg_r0 (i := 1) (by decide) rfl
  clear hh
  obtain ⟨coder_4, rfl, hlocoder_4, hhicoder_4⟩ := hv_2
  obtain rfl : coder_4 = 0 := Int32.toInt_inj.mp (by rw [show (0 : Int32).toInt = 0 by decide]; omega)
  refine j7_read hx hb hown hK (C := RJ4) (T := TJ4) (N := 4) rfl hly_0_1 hlk_22 (hh_3.at 0 rfl) dJ5_ensureCapacityInternal_d00df_6 ?_
  refine lv_ishr hx hb dJ5_ensureCapacityInternal_d00df_9 ?_
  refine lv_topi (fun z_5 ez_5 => ?_)
  have hz_5 : z_5.toInt = z_1.toInt / 2 ^ 0 := by rw [ez_5]; exact jb_ishr 0 (rfl) (by decide)
  refine lv_istore_n (lv' := [(2, .int z_5), (0, .ref r0), (1, .int a1)]) hx hb dJ5_ensureCapacityInternal_d00df_10 rfl hl (by decide) rfl (fun ls hl => ?_)
  refine lv_iload_n hx hb dJ5_ensureCapacityInternal_d00df_11 rfl (lv_at hl 2 rfl) ?_
  refine lv_iload_n hx hb dJ5_ensureCapacityInternal_d00df_12 rfl (lv_at hl 0 rfl) ?_
  refine lv_isub hx hb dJ5_ensureCapacityInternal_d00df_13 ?_
  refine lv_topi (fun z_6 ez_6 => ?_)
  have hz_6 : z_6.toInt = a1.toInt - z_5.toInt := by rw [ez_6]; exact jb_isub2 (rfl) (rfl) (by omega)
  refine lv_if_le (tgt := 38) hx hb dJ5_ensureCapacityInternal_d00df_14 (by decide) (fun c_7 => ?_) (fun c_7 => ?_)
  · skip
    have c_7' : z_6.toInt ≤ 0 := jb_le (rfl) ((by decide)) c_7
    rw [hQ]
    exact W.vret hx hb hr (fun t ht hW => ⟨⟨(), rfl, trivial, hh_3.rt (M1 := []) [] rfl ht⟩, by rw [ht]; try exact hh_3.1.1, fun q h9 hq => by rw [ht]; try exact hh_3.1.2.1 q h9 hq⟩) hh_3.1.2.2 dJ5_ensureCapacityInternal_d00df_38
  · skip
    have c_7' : z_6.toInt > 0 := jb_le_n (rfl) ((by decide)) c_7
    exact absurd c_7' (by omega)
set_option maxHeartbeats 4000000 in
set_option maxRecDepth 20000 in
theorem uJ5_setLength_d00df (l : Launch) (dC : Nat → ClassId) (dI : Nat → Nat → Nat) (ca : Nat → ClassId) (base : Nat) (B : jF) (hB : jBok B) (hAp : jAp (dC, dI)) (hB0 : ∀ n G a H, B 0 n G a H ↔ jOb (dC, dI) 0 4 (Fz0 n G) a H) (hB196 : ∀ n G a H, B 196 n G a H ↔ jAr (dC, dI) (ca 0) (fun j z => jBf j z) n a H) (G0 : jT) (H0 : Heap) (r0 : Nat) (a1 : Int32) (pc : Int32) (pa : Nat) (n_pa : Nat) : Met l yJ5_setLength_d00df (jw yJ5_setLength_d00df cJ5_setLength_d00df 2 none) ({ frames := 4, cells := 0, slots := 0, locals := 102 }) (va_Pc [.ref r0, .int a1] (fun U => U.heap = H0 ∧ jX B base G0 [] H0 ∧ jG dC dI ca base U ∧ G0 r0 = some (0, 0) ∧ G0 pa = some (196, n_pa) ∧ jP (dC, dI) G0 H0 [(r0, 0, 3, .int pc), (r0, 0, 0, .ref pa)] ∧ a1.toInt = 0 ∧ 0 ≤ pc.toInt ∧ n_pa ≤ 1000)) (va_Qv (S := Int32) (fun u => u.toInt = 0) (fun u t => (jRt (dC, dI) B base G0 EJ5_setLength_d00df H0 [(r0, 0, 3, .int u)] t.heap) ∧ jOw (dC, dI) G0 0 r0 H0 t.heap) (jA base)) 0 0 (jA base) := by
  refine Met.ofW (cc := cJ5_setLength_d00df) (maxL := 2) (ret := none) (by decide) rfl ?_
  intro p e s m args below meth c s₁ Bd hml hv
  obtain ⟨rfl, hH0, hX, hG, hg_r0, hg_pa, hP0, hp0, hp1, hp2⟩ := hv
  have hK := hG.1
  have hx := Bd.exec
  have hb := Bd.bytes
  have hr := Bd.returns
  have hts := atoms_spec (ws := (jw yJ5_setLength_d00df cJ5_setLength_d00df 2 none)) Bd.pre
  have htw : ∀ w ∈ jWl, w.before _ s = true := fun w h => hts w (List.mem_cons_of_mem _ h)
  have hown : s.vm.findClass RJ5 = some m.cls := findClass_of_methodNamed Bd.named
  have hlocks := Bd.notSynchronized
  obtain ⟨Q, hQ⟩ : ∃ Q, Q = MQ below (va_Qv (S := Int32) (fun u => u.toInt = 0) (fun u t => (jRt (dC, dI) B base G0 EJ5_setLength_d00df H0 [(r0, 0, 3, .int u)] t.heap) ∧ jOw (dC, dI) G0 0 r0 H0 t.heap) (jA base)) ([.ref r0, .int a1] : List Value).toArray s 0 0 (jA base) := ⟨_, rfl⟩
  rw [← hQ]
  have hl := lv_entry ([.ref r0, .int a1]) (n := 2) (Nat.le_of_ble_eq_true rfl)
  rw [lg_entry_eq]
  generalize (lg_sl ([.ref r0, .int a1]) ++ List.replicate (2 - (lg_sl ([.ref r0, .int a1])).length) Slot.unset).toArray = ls at hl ⊢
  have hl : lv_has ls 2 [(0, .ref r0), (1, .int a1)] := hl
  generalize hR : (headSpec (jw yJ5_setLength_d00df cJ5_setLength_d00df 2 none) ({ frames := 4, cells := 0, slots := 0, locals := 102 })).room = R
  subst hH0
  have hh : jSt (dC, dI) B base G0 G0 EJ5_setLength_d00df s.heap 0 0 [(r0, 0, 3, .int pc), (r0, 0, 0, .ref pa)] [] [] s.heap [] := jSt.start hX hP0 jMc.nil jIs.nil
  clear hX hP0
  have hk0 : (0 : Int32).toInt = 0 := by decide
  have hk1 : (1 : Int32).toInt = 1 := by decide
  have hly_0_0 := htw (u_lay RJ4 TJ4 0) (jWc_wsJ40 _ (u_in_lay (by decide)))
  have hly_0_2 := htw (u_lay RJ4 TJ4 2) (jWc_wsJ40 _ (u_in_lay (by decide)))
  have hly_0_3 := htw (u_lay RJ4 TJ4 3) (jWc_wsJ40 _ (u_in_lay (by decide)))
  have hlk_79 := (htw (.fieldLink RJ5 79 "java/lang/AbstractStringBuilder" "count" "I") (jWr_45 _ (List.mem_of_getElem? (i := 9) rfl)))
  have hlk_15 := (htw (.fieldLink RJ5 15 "java/lang/AbstractStringBuilder" "value" "[B") (jWr_13 _ (List.mem_of_getElem? (i := 11) rfl)))
  have hlk_73 := (htw (.fieldLink RJ5 73 "java/lang/AbstractStringBuilder" "maybeLatin1" "Z") (jWr_45 _ (List.mem_of_getElem? (i := 10) rfl)))
  have hrg_a1 := jb_rng a1
  have hh_1 := hh.addI (jOw.ie (dC := dC) (dI := dI) (G0 := G0) (k := 0) (r := r0) (H0 := s.heap) (F := [(0, 0), (0, 1), (0, 2), (0, 3)]) (C := RJ4) (T := TJ4) (N := 4) rfl (by decide) hh.2.2.2.2.1 (jOw.rf))
  clear hh
  refine lv_iload_n hx hb dJ5_setLength_d00df_0 rfl (lv_at hl 1 rfl) ?_
  refine lv_if_ge (tgt := 13) hx hb dJ5_setLength_d00df_1 (by decide) (fun c_2 => ?_) (fun c_2 => ?_)
  · skip
    have c_2' : a1.toInt ≥ 0 := jb_ge (rfl) ((by decide)) c_2
    refine lv_aload_n hx hb dJ5_setLength_d00df_13 rfl (lv_at hl 0 rfl) ?_
    refine lv_iload_n hx hb dJ5_setLength_d00df_14 rfl (lv_at hl 1 rfl) ?_
    refine va_callv (A0 := jA base) (H0 := s.heap) (va_runU (As := [.int a1]) (rest := []) ⟨hx, hb, hml, hown, hts⟩ (uJ5_ensureCapacityInternal_d00df l dC dI ca base B hB hAp hB0 hB196 G0 s.heap r0 a1 pc pa n_pa) (va_cwU 1 hts (jgX (jWr_45 _ (List.mem_of_getElem? (i := 11) rfl)) (jWr_45 _ (List.mem_of_getElem? (i := 12) rfl)) (jWr_45 _ (List.mem_of_getElem? (i := 13) rfl)) (jWr_45 _ (List.mem_of_getElem? (i := 14) rfl)) (jWr_13 _ (List.mem_of_getElem? (i := 7) rfl)) (jWr_45 _ (List.mem_of_getElem? (i := 15) rfl))) rfl rfl rfl rfl (by decide +kernel) ⟨by rw [← hR]; exact Nat.le_of_ble_eq_true rfl, by rw [← hR]; exact Nat.le_of_ble_eq_true rfl⟩) ⟨fun a U g mk q => by obtain ⟨q0, q1, q2, qK, q10, q11, q12, q13⟩ := q; exact ⟨q0, q1, q2, jG.calling g mk a qK, q10, q11, q12, q13⟩, hh_1.recv (C := RJ4) (T := TJ4) (N := 4) hB0 rfl (by decide) hg_r0 hK, fun U hU hW => ⟨rfl, hU, hh_1.2.1, hG.step hW hU hh_1.1, hg_r0, hg_pa, (hh_1.2.2.1.sub (L1 := [(r0, 0, 3, .int pc), (r0, 0, 0, .ref pa)]) [0, 1] rfl), by first | omega | (refine ⟨?_, ?_, ?_⟩ <;> (first | omega | rfl | assumption | decide | exact Or.inl rfl | exact Or.inr rfl | (simp only; omega)))⟩⟩ rfl rfl hl.1 rfl (lv_room (Nat.le_of_ble_eq_true rfl)) dJ5_setLength_d00df_15 ⟨Nat.zero_le _, Nat.zero_le _⟩) hh_1.1 (fun q _ h => h) (fun q h => h) (fun u_3 t_3 H_3 locs_3 ht_3 hvm_3 hr_4 hb_3 hz_3 hk_3 hS_3 => ?_)
    rw [ht_3] at hb_3
    obtain ⟨hb_31, hb_32, hb_33, hb_34, hb_35⟩ := hb_3
    have hh_3 : jSt (dC, dI) B base G0 G0 EJ5_setLength_d00df s.heap 0 0 [(r0, 0, 3, .int pc), (r0, 0, 0, .ref pa)] [] [([(0, 0), (0, 1), (0, 2), (0, 3)], jOw (dC, dI) G0 0 r0 s.heap)] H_3 locs_3 := ((hh_1.call hb_31 hb_32 hb_33 hb_34 hS_3 rfl (L1 := [(r0, 0, 3, .int pc), (r0, 0, 0, .ref pa)]) [0, 1] rfl rfl (M1 := []) [] rfl rfl (I1 := [([(0, 0), (0, 1), (0, 2), (0, 3)], jOw (dC, dI) G0 0 r0 s.heap)]) [0] rfl rfl).more hb_35)
    clear hh_1 ht_3 hvm_3 hz_3 hk_3 hS_3 hb_31 hb_32 hb_33 hb_34 hb_35
    refine lv_aload_n hx hb dJ5_setLength_d00df_18 rfl (lv_at hl 0 rfl) ?_
    refine j7_read hx hb hown hK (C := RJ4) (T := TJ4) (N := 4) rfl hly_0_3 hlk_79 (hh_3.at 0 rfl) dJ5_setLength_d00df_19 ?_
    refine lv_iload_n hx hb dJ5_setLength_d00df_22 rfl (lv_at hl 1 rfl) ?_
    refine lv_icmp_ge (tgt := 63) hx hb dJ5_setLength_d00df_23 (by decide) (fun c_5 => ?_) (fun c_5 => ?_)
    · skip
      have c_5' : pc.toInt ≥ a1.toInt := jb_ge (rfl) (rfl) c_5
      refine lv_aload_n hx hb dJ5_setLength_d00df_63 rfl (lv_at hl 0 rfl) ?_
      refine j7_read hx hb hown hK (C := RJ4) (T := TJ4) (N := 4) rfl hly_0_3 hlk_79 (hh_3.at 0 rfl) dJ5_setLength_d00df_64 ?_
      refine lv_iload_n hx hb dJ5_setLength_d00df_67 rfl (lv_at hl 1 rfl) ?_
      refine lv_icmp_le (tgt := 76) hx hb dJ5_setLength_d00df_68 (by decide) (fun c_6 => ?_) (fun c_6 => ?_)
      · skip
        have c_6' : pc.toInt ≤ a1.toInt := jb_le (rfl) (rfl) c_6
        refine lv_aload_n hx hb dJ5_setLength_d00df_76 rfl (lv_at hl 0 rfl) ?_
        refine lv_iload_n hx hb dJ5_setLength_d00df_77 rfl (lv_at hl 1 rfl) ?_
        have hd_8 := hh_3.iv 0 rfl
        have hh_9 := hh_3.sub (L1 := [(r0, 0, 3, .int pc), (r0, 0, 0, .ref pa)]) [0, 1] rfl (M1 := []) [] rfl (I1 := []) [] rfl
        clear hh_3
        refine j7_putX hx hb hown hK hh_9 hB hAp hB0 (C := RJ4) (T := TJ4) (N := 4) rfl (by decide) hg_r0 (i := 3) (by decide) hly_0_3 rfl hlk_79 rfl (ty := .int) (v := .int a1) (by decide +kernel) rfl rfl (⟨_, rfl, by omega, by omega⟩) rfl (L1 := [(r0, 0, 0, .ref pa)]) [1] rfl rfl rfl dJ5_setLength_d00df_78 (fun H_7 locs_7 hr_7 hh_7 => ?_)
        clear hh_9
        have hd_8n := jOw.put hd_8 hr_7
        have hh_10 := hh_7.addI (jOw.ie (dC := dC) (dI := dI) (G0 := G0) (k := 0) (r := r0) (H0 := s.heap) (F := [(0, 0), (0, 1), (0, 2), (0, 3)]) (C := RJ4) (T := TJ4) (N := 4) rfl (by decide) hh_7.2.2.2.2.1 (hd_8n))
        clear hh_7
        clear hd_8 hd_8n hr_7
        rw [hQ]
        exact W.vret hx hb hr (fun t ht hW => ⟨⟨a1, rfl, by (try dsimp only); first | omega | rfl | assumption | decide | exact Or.inl rfl | exact Or.inr rfl | (simp only; omega), ⟨hh_10.rt (M1 := [(r0, 0, 3, .int a1)]) [0] rfl ht, by rw [ht]; exact hh_10.iv 0 rfl⟩⟩, by rw [ht]; try exact hh_10.1.1, fun q h9 hq => by rw [ht]; try exact hh_10.1.2.1 q h9 hq⟩) hh_10.1.2.2 dJ5_setLength_d00df_81
      · skip
        have c_6' : pc.toInt > a1.toInt := jb_le_n (rfl) (rfl) c_6
        refine lv_aload_n hx hb dJ5_setLength_d00df_71 rfl (lv_at hl 0 rfl) ?_
        refine lv_iconst (v := 1) hx hb dJ5_setLength_d00df_72 (by decide) ?_
        have hd_12 := hh_3.iv 0 rfl
        have hh_13 := hh_3.sub (L1 := [(r0, 0, 3, .int pc), (r0, 0, 0, .ref pa)]) [0, 1] rfl (M1 := []) [] rfl (I1 := []) [] rfl
        clear hh_3
        refine j7_putX hx hb hown hK hh_13 hB hAp hB0 (C := RJ4) (T := TJ4) (N := 4) rfl (by decide) hg_r0 (i := 2) (by decide) hly_0_2 rfl hlk_73 rfl (ty := .boolean) (v := .int 1) (by decide +kernel) (jb_nz (Or.inr rfl)) (jb_fz (Or.inr rfl)) (⟨_, rfl, (Or.inr rfl)⟩) rfl (L1 := [(r0, 0, 3, .int pc), (r0, 0, 0, .ref pa)]) [0, 1] rfl rfl rfl dJ5_setLength_d00df_73 (fun H_11 locs_11 hr_11 hh_11 => ?_)
        clear hh_13
        have hd_12n := jOw.put hd_12 hr_11
        have hh_14 := hh_11.addI (jOw.ie (dC := dC) (dI := dI) (G0 := G0) (k := 0) (r := r0) (H0 := s.heap) (F := [(0, 0), (0, 1), (0, 2), (0, 3)]) (C := RJ4) (T := TJ4) (N := 4) rfl (by decide) hh_11.2.2.2.2.1 (hd_12n))
        clear hh_11
        clear hd_12 hd_12n hr_11
        refine lv_aload_n hx hb dJ5_setLength_d00df_76 rfl (lv_at hl 0 rfl) ?_
        refine lv_iload_n hx hb dJ5_setLength_d00df_77 rfl (lv_at hl 1 rfl) ?_
        have hd_16 := hh_14.iv 0 rfl
        have hh_17 := hh_14.sub (L1 := [(r0, 0, 2, .int 1), (r0, 0, 3, .int pc), (r0, 0, 0, .ref pa)]) [0, 1, 2] rfl (M1 := []) [] rfl (I1 := []) [] rfl
        clear hh_14
        refine j7_putX hx hb hown hK hh_17 hB hAp hB0 (C := RJ4) (T := TJ4) (N := 4) rfl (by decide) hg_r0 (i := 3) (by decide) hly_0_3 rfl hlk_79 rfl (ty := .int) (v := .int a1) (by decide +kernel) rfl rfl (⟨_, rfl, by omega, by omega⟩) rfl (L1 := [(r0, 0, 2, .int 1), (r0, 0, 0, .ref pa)]) [0, 2] rfl rfl rfl dJ5_setLength_d00df_78 (fun H_15 locs_15 hr_15 hh_15 => ?_)
        clear hh_17
        have hd_16n := jOw.put hd_16 hr_15
        have hh_18 := hh_15.addI (jOw.ie (dC := dC) (dI := dI) (G0 := G0) (k := 0) (r := r0) (H0 := s.heap) (F := [(0, 0), (0, 1), (0, 2), (0, 3)]) (C := RJ4) (T := TJ4) (N := 4) rfl (by decide) hh_15.2.2.2.2.1 (hd_16n))
        clear hh_15
        clear hd_16 hd_16n hr_15
        rw [hQ]
        exact W.vret hx hb hr (fun t ht hW => ⟨⟨a1, rfl, by (try dsimp only); first | omega | rfl | assumption | decide | exact Or.inl rfl | exact Or.inr rfl | (simp only; omega), ⟨hh_18.rt (M1 := [(r0, 0, 3, .int a1)]) [0] rfl ht, by rw [ht]; exact hh_18.iv 0 rfl⟩⟩, by rw [ht]; try exact hh_18.1.1, fun q h9 hq => by rw [ht]; try exact hh_18.1.2.1 q h9 hq⟩) hh_18.1.2.2 dJ5_setLength_d00df_81
    · skip
      have c_5' : pc.toInt < a1.toInt := jb_ge_n (rfl) (rfl) c_5
      exact absurd c_5' (by omega)
  · skip
    have c_2' : a1.toInt < 0 := jb_ge_n (rfl) ((by decide)) c_2
    exact absurd c_2' (by omega)
set_option maxHeartbeats 4000000 in
set_option maxRecDepth 20000 in
theorem uJ4_setLength_d00df (l : Launch) (dC : Nat → ClassId) (dI : Nat → Nat → Nat) (ca : Nat → ClassId) (base : Nat) (B : jF) (hB : jBok B) (hAp : jAp (dC, dI)) (hB0 : ∀ n G a H, B 0 n G a H ↔ jOb (dC, dI) 0 4 (Fz0 n G) a H) (hB196 : ∀ n G a H, B 196 n G a H ↔ jAr (dC, dI) (ca 0) (fun j z => jBf j z) n a H) (G0 : jT) (H0 : Heap) (r0 : Nat) (a1 : Int32) (pc : Int32) (pa : Nat) (n_pa : Nat) : Met l yJ4_setLength_d00df (jw yJ4_setLength_d00df cJ4_setLength_d00df 2 none) ({ frames := 5, cells := 0, slots := 0, locals := 123 }) (va_Pc [.ref r0, .int a1] (fun U => U.heap = H0 ∧ jX B base G0 [] H0 ∧ jG dC dI ca base U ∧ G0 r0 = some (0, 0) ∧ G0 pa = some (196, n_pa) ∧ jP (dC, dI) G0 H0 [(r0, 0, 3, .int pc), (r0, 0, 0, .ref pa)] ∧ a1.toInt = 0 ∧ 0 ≤ pc.toInt ∧ n_pa ≤ 1000)) (va_Qv (S := Int32) (fun u => u.toInt = 0) (fun u t => (jRt (dC, dI) B base G0 EJ4_setLength_d00df H0 [(r0, 0, 3, .int u)] t.heap) ∧ jOw (dC, dI) G0 0 r0 H0 t.heap) (jA base)) 0 0 (jA base) := by
  refine Met.ofW (cc := cJ4_setLength_d00df) (maxL := 2) (ret := none) (by decide) rfl ?_
  intro p e s m args below meth c s₁ Bd hml hv
  obtain ⟨rfl, hH0, hX, hG, hg_r0, hg_pa, hP0, hp0, hp1, hp2⟩ := hv
  have hK := hG.1
  have hx := Bd.exec
  have hb := Bd.bytes
  have hr := Bd.returns
  have hts := atoms_spec (ws := (jw yJ4_setLength_d00df cJ4_setLength_d00df 2 none)) Bd.pre
  have htw : ∀ w ∈ jWl, w.before _ s = true := fun w h => hts w (List.mem_cons_of_mem _ h)
  have hown : s.vm.findClass RJ4 = some m.cls := findClass_of_methodNamed Bd.named
  have hlocks := Bd.notSynchronized
  obtain ⟨Q, hQ⟩ : ∃ Q, Q = MQ below (va_Qv (S := Int32) (fun u => u.toInt = 0) (fun u t => (jRt (dC, dI) B base G0 EJ4_setLength_d00df H0 [(r0, 0, 3, .int u)] t.heap) ∧ jOw (dC, dI) G0 0 r0 H0 t.heap) (jA base)) ([.ref r0, .int a1] : List Value).toArray s 0 0 (jA base) := ⟨_, rfl⟩
  rw [← hQ]
  have hl := lv_entry ([.ref r0, .int a1]) (n := 2) (Nat.le_of_ble_eq_true rfl)
  rw [lg_entry_eq]
  generalize (lg_sl ([.ref r0, .int a1]) ++ List.replicate (2 - (lg_sl ([.ref r0, .int a1])).length) Slot.unset).toArray = ls at hl ⊢
  have hl : lv_has ls 2 [(0, .ref r0), (1, .int a1)] := hl
  generalize hR : (headSpec (jw yJ4_setLength_d00df cJ4_setLength_d00df 2 none) ({ frames := 5, cells := 0, slots := 0, locals := 123 })).room = R
  subst hH0
  have hh : jSt (dC, dI) B base G0 G0 EJ4_setLength_d00df s.heap 0 0 [(r0, 0, 3, .int pc), (r0, 0, 0, .ref pa)] [] [] s.heap [] := jSt.start hX hP0 jMc.nil jIs.nil
  clear hX hP0
  have hk0 : (0 : Int32).toInt = 0 := by decide
  have hk1 : (1 : Int32).toInt = 1 := by decide
  have hrg_a1 := jb_rng a1
  have hh_1 := hh.addI (jOw.ie (dC := dC) (dI := dI) (G0 := G0) (k := 0) (r := r0) (H0 := s.heap) (F := [(0, 0), (0, 1), (0, 2), (0, 3)]) (C := RJ4) (T := TJ4) (N := 4) rfl (by decide) hh.2.2.2.2.1 (jOw.rf))
  clear hh
  refine lv_aload_n hx hb dJ4_setLength_d00df_0 rfl (lv_at hl 0 rfl) ?_
  refine lv_iload_n hx hb dJ4_setLength_d00df_1 rfl (lv_at hl 1 rfl) ?_
  refine va_callv (A0 := jA base) (H0 := s.heap) (va_runSU (hK.1 0 _ rfl).2 (As := [.int a1]) (rest := []) ⟨hx, hb, hml, hown, hts⟩ (uJ5_setLength_d00df l dC dI ca base B hB hAp hB0 hB196 G0 s.heap r0 a1 pc pa n_pa) (va_cwSU 1 hts (jgU (jWr_45 _ (List.mem_of_getElem? (i := 4) rfl)) (jWr_45 _ (List.mem_of_getElem? (i := 5) rfl)) (jWr_45 _ (List.mem_of_getElem? (i := 6) rfl)) (jWr_45 _ (List.mem_of_getElem? (i := 7) rfl)) (jWr_13 _ (List.mem_of_getElem? (i := 7) rfl)) (jWr_45 _ (List.mem_of_getElem? (i := 8) rfl))) rfl rfl rfl (by decide +kernel) ⟨by rw [← hR]; exact Nat.le_of_ble_eq_true rfl, by rw [← hR]; exact Nat.le_of_ble_eq_true rfl⟩) ⟨fun a U g mk q => by obtain ⟨q0, q1, q2, qK, q10, q11, q12, q13⟩ := q; exact ⟨q0, q1, q2, jG.calling g mk a qK, q10, q11, q12, q13⟩, hh_1.recv (C := RJ4) (T := TJ4) (N := 4) hB0 rfl (by decide) hg_r0 hK, fun U hU hW => ⟨rfl, hU, hh_1.2.1, hG.step hW hU hh_1.1, hg_r0, hg_pa, (hh_1.2.2.1.sub (L1 := [(r0, 0, 3, .int pc), (r0, 0, 0, .ref pa)]) [0, 1] rfl), by first | omega | (refine ⟨?_, ?_, ?_⟩ <;> (first | omega | rfl | assumption | decide | exact Or.inl rfl | exact Or.inr rfl | (simp only; omega)))⟩⟩ rfl rfl hl.1 rfl (lv_room (Nat.le_of_ble_eq_true rfl)) dJ4_setLength_d00df_2 ⟨Nat.zero_le _, Nat.zero_le _⟩) hh_1.1 (fun q _ h => h) (fun q h => h) (fun u_2 t_2 H_2 locs_2 ht_2 hvm_2 hr_3 hb_2 hz_2 hk_2 hS_2 => ?_)
  obtain ⟨qc_2, rfl⟩ : ∃ z, z = u_2 := ⟨_, rfl⟩
  rw [ht_2] at hb_2
  obtain ⟨hb_2, hbO_2⟩ := hb_2
  obtain ⟨hb_21, hb_22, hb_23, hb_24, hb_25⟩ := hb_2
  have hh_2 : jSt (dC, dI) B base G0 G0 EJ4_setLength_d00df s.heap 0 0 [(r0, 0, 3, .int qc_2), (r0, 0, 0, .ref pa)] [] [] H_2 locs_2 := ((hh_1.call hb_21 hb_22 hb_23 hb_24 hS_2 rfl (L1 := [(r0, 0, 0, .ref pa)]) [1] rfl rfl (M1 := []) [] rfl rfl (I1 := []) [] rfl rfl).more hb_25)
  have hd_4 := jOw.tr (hh_1.iv 0 rfl) hh_1.2.2.2.2.1 hbO_2
  have hh_5 := hh_2.addI (jOw.ie (dC := dC) (dI := dI) (G0 := G0) (k := 0) (r := r0) (H0 := s.heap) (F := [(0, 0), (0, 1), (0, 2), (0, 3)]) (C := RJ4) (T := TJ4) (N := 4) rfl (by decide) hh_2.2.2.2.2.1 (hd_4))
  clear hh_2
  clear hh_1 ht_2 hvm_2 hz_2 hk_2 hS_2 hb_21 hb_22 hb_23 hb_24 hb_25
  rw [hQ]
  exact W.vret hx hb hr (fun t ht hW => ⟨⟨qc_2, rfl, by (try dsimp only); first | omega | rfl | assumption | decide | exact Or.inl rfl | exact Or.inr rfl | (simp only; omega), ⟨hh_5.rt (M1 := [(r0, 0, 3, .int qc_2)]) [0] rfl ht, by rw [ht]; exact hh_5.iv 0 rfl⟩⟩, by rw [ht]; try exact hh_5.1.1, fun q h9 hq => by rw [ht]; try exact hh_5.1.2.1 q h9 hq⟩) hh_5.1.2.2 dJ4_setLength_d00df_5
end
section
def EJ5_ensureCapacityInternal_d00dfM : List (Nat × Nat) := [(0, 0)]
def EJ5_append_3fe6fM : List (Nat × Nat) := [(0, 0), (0, 3), (196, 0)]
def EJ4_append_cf468M : List (Nat × Nat) := [(0, 0), (0, 3), (196, 0)]
set_option maxHeartbeats 4000000 in
set_option maxRecDepth 20000 in
theorem uJ5_ensureCapacityInternal_d00dfM (l : Launch) (dC : Nat → ClassId) (dI : Nat → Nat → Nat) (ca : Nat → ClassId) (base : Nat) (B : jF) (hB : jBok B) (hAp : jAp (dC, dI)) (hB0 : ∀ n G a H, B 0 n G a H ↔ jOb (dC, dI) 0 4 (Fz0 n G) a H) (hB196 : ∀ n G a H, B 196 n G a H ↔ jAr (dC, dI) (ca 0) (fun j z => jBf j z) n a H) (G0 : jT) (H0 : Heap) (r0 : Nat) (a1 : Int32) (pc : Int32) (pa : Nat) (n_pa : Nat) (LC LS : Nat) : Met l yJ5_ensureCapacityInternal_d00df (jw yJ5_ensureCapacityInternal_d00df cJ5_ensureCapacityInternal_d00df 3 none) ({ frames := 3, cells := LC - H0.size, slots := LS - jTot H0, locals := 80 }) (va_Pc [.ref r0, .int a1] (fun U => U.heap = H0 ∧ jX B base G0 [] H0 ∧ jG dC dI ca base U ∧ G0 r0 = some (0, 0) ∧ G0 pa = some (196, n_pa) ∧ jP (dC, dI) G0 H0 [(r0, 0, 3, .int pc), (r0, 0, 0, .ref pa)] ∧ H0.size + (n_pa + 2) ≤ LC ∧ jTot H0 + (2 * n_pa + 4) ≤ LS ∧ 0 ≤ a1.toInt ∧ a1.toInt ≤ n_pa + 1 ∧ 16 ≤ n_pa ∧ n_pa ≤ 400)) (va_Qv (S := Nat × Nat × jT) (fun u => a1.toInt ≤ u.2.1 ∧ n_pa ≤ u.2.1 ∧ u.2.1 ≤ n_pa + n_pa + 2 ∧ (u.2.1 ≤ n_pa ∨ n_pa < a1.toInt)) (fun u t => jRa (dC, dI) B base G0 u.2.2 EJ5_ensureCapacityInternal_d00dfM H0 (u.2.1 - n_pa) (2 * (u.2.1 - n_pa)) [(r0, 0, 0, .ref u.1)] t.heap ∧ u.2.2 u.1 = some (196, u.2.1) ∧ (jNk [0, 1, 2, 3, 4, 5, 6, 7, 8, 9, 10, 11, 12, 13, 14, 15, 16]) G0 u.2.2 ∧ jOw (dC, dI) G0 0 r0 H0 t.heap) (jA base)) (LC - H0.size) (LS - jTot H0) (jA base) := by
  refine Met.ofW (cc := cJ5_ensureCapacityInternal_d00df) (maxL := 3) (ret := none) (by decide) rfl ?_
  intro p e s m args below meth c s₁ Bd hml hv
  obtain ⟨rfl, hH0, hX, hG, hg_r0, hg_pa, hP0, hLC0, hLS0, hp0, hp1, hp2, hp3⟩ := hv
  have hK := hG.1
  have hx := Bd.exec
  have hb := Bd.bytes
  have hr := Bd.returns
  have hts := atoms_spec (ws := (jw yJ5_ensureCapacityInternal_d00df cJ5_ensureCapacityInternal_d00df 3 none)) Bd.pre
  have htw : ∀ w ∈ jWl, w.before _ s = true := fun w h => hts w (List.mem_cons_of_mem _ h)
  have hown : s.vm.findClass RJ5 = some m.cls := findClass_of_methodNamed Bd.named
  have hlocks := Bd.notSynchronized
  obtain ⟨Q, hQ⟩ : ∃ Q, Q = MQ below (va_Qv (S := Nat × Nat × jT) (fun u => a1.toInt ≤ u.2.1 ∧ n_pa ≤ u.2.1 ∧ u.2.1 ≤ n_pa + n_pa + 2 ∧ (u.2.1 ≤ n_pa ∨ n_pa < a1.toInt)) (fun u t => jRa (dC, dI) B base G0 u.2.2 EJ5_ensureCapacityInternal_d00dfM H0 (u.2.1 - n_pa) (2 * (u.2.1 - n_pa)) [(r0, 0, 0, .ref u.1)] t.heap ∧ u.2.2 u.1 = some (196, u.2.1) ∧ (jNk [0, 1, 2, 3, 4, 5, 6, 7, 8, 9, 10, 11, 12, 13, 14, 15, 16]) G0 u.2.2 ∧ jOw (dC, dI) G0 0 r0 H0 t.heap) (jA base)) ([.ref r0, .int a1] : List Value).toArray s (LC - H0.size) (LS - jTot H0) (jA base) := ⟨_, rfl⟩
  rw [← hQ]
  have hl := lv_entry ([.ref r0, .int a1]) (n := 3) (Nat.le_of_ble_eq_true rfl)
  rw [lg_entry_eq]
  generalize (lg_sl ([.ref r0, .int a1]) ++ List.replicate (3 - (lg_sl ([.ref r0, .int a1])).length) Slot.unset).toArray = ls at hl ⊢
  have hl : lv_has ls 3 [(0, .ref r0), (1, .int a1)] := hl
  generalize hR : (headSpec (jw yJ5_ensureCapacityInternal_d00df cJ5_ensureCapacityInternal_d00df 3 none) ({ frames := 3, cells := LC - H0.size, slots := LS - jTot H0, locals := 80 })).room = R
  subst hH0
  have hh : jSt (dC, dI) B base G0 G0 EJ5_ensureCapacityInternal_d00dfM s.heap 0 0 [(r0, 0, 3, .int pc), (r0, 0, 0, .ref pa)] [] [] s.heap [] := jSt.start hX hP0 jMc.nil jIs.nil
  clear hX hP0
  have hk0 : (0 : Int32).toInt = 0 := by decide
  have hk1 : (1 : Int32).toInt = 1 := by decide
  have hly_0_0 := htw (u_lay RJ4 TJ4 0) (jWc_wsJ40 _ (u_in_lay (by decide)))
  have hly_0_1 := htw (u_lay RJ4 TJ4 1) (jWc_wsJ40 _ (u_in_lay (by decide)))
  have hlk_15 := (htw (.fieldLink RJ5 15 "java/lang/AbstractStringBuilder" "value" "[B") (jWr_13 _ (List.mem_of_getElem? (i := 11) rfl)))
  have hlk_22 := (htw (.fieldLink RJ5 22 "java/lang/AbstractStringBuilder" "coder" "B") (jWr_13 _ (List.mem_of_getElem? (i := 12) rfl)))
  have hrg_a1 := jb_rng a1
  have hbs : base ≤ s.heap.size := Nat.le_of_lt (Nat.lt_of_le_of_lt (hh.ab hg_r0).1 (hh.ab hg_r0).2)
  have hRc : R.cells = LC - s.heap.size := by rw [← hR]; rfl
  have hRs : R.slots = LS - jTot s.heap := by rw [← hR]; rfl
  have hh_1 := hh.addI (jOw.ie (dC := dC) (dI := dI) (G0 := G0) (k := 0) (r := r0) (H0 := s.heap) (F := [(0, 0), (0, 1), (0, 2), (0, 3)]) (C := RJ4) (T := TJ4) (N := 4) rfl (by decide) hh.2.2.2.2.1 (jOw.rf))
  clear hh
  refine lv_aload_n hx hb dJ5_ensureCapacityInternal_d00df_0 rfl (lv_at hl 0 rfl) ?_
  refine j7_read hx hb hown hK (C := RJ4) (T := TJ4) (N := 4) rfl hly_0_0 hlk_15 (hh_1.at 1 rfl) dJ5_ensureCapacityInternal_d00df_1 ?_
  refine j7_len hx hb hK hh_1 hB196 0 rfl (by decide) hg_pa (by omega) dJ5_ensureCapacityInternal_d00df_4 (fun z_2 hz_2 => ?_)
  refine lv_aload_n hx hb dJ5_ensureCapacityInternal_d00df_5 rfl (lv_at hl 0 rfl) ?_
  obtain ⟨v_3, hv_3, hh_4⟩ := hh_1.pin (C := RJ4) (T := TJ4) (N := 4) hB0 rfl (by decide) hg_r0 (i := 1) (by decide) rfl
  clear hh_1
  obtain ⟨coder_5, rfl, hlocoder_5, hhicoder_5⟩ := hv_3
  obtain rfl : coder_5 = 0 := Int32.toInt_inj.mp (by rw [show (0 : Int32).toInt = 0 by decide]; omega)
  refine j7_read hx hb hown hK (C := RJ4) (T := TJ4) (N := 4) rfl hly_0_1 hlk_22 (hh_4.at 0 rfl) dJ5_ensureCapacityInternal_d00df_6 ?_
  refine lv_ishr hx hb dJ5_ensureCapacityInternal_d00df_9 ?_
  refine lv_topi (fun z_6 ez_6 => ?_)
  have hz_6 : z_6.toInt = z_2.toInt / 2 ^ 0 := by rw [ez_6]; exact jb_ishr 0 (rfl) (by decide)
  refine lv_istore_n (lv' := [(2, .int z_6), (0, .ref r0), (1, .int a1)]) hx hb dJ5_ensureCapacityInternal_d00df_10 rfl hl (by decide) rfl (fun ls hl => ?_)
  refine lv_iload_n hx hb dJ5_ensureCapacityInternal_d00df_11 rfl (lv_at hl 2 rfl) ?_
  refine lv_iload_n hx hb dJ5_ensureCapacityInternal_d00df_12 rfl (lv_at hl 0 rfl) ?_
  refine lv_isub hx hb dJ5_ensureCapacityInternal_d00df_13 ?_
  refine lv_topi (fun z_7 ez_7 => ?_)
  have hz_7 : z_7.toInt = a1.toInt - z_6.toInt := by rw [ez_7]; exact jb_isub2 (rfl) (rfl) (by omega)
  refine lv_if_le (tgt := 38) hx hb dJ5_ensureCapacityInternal_d00df_14 (by decide) (fun c_8 => ?_) (fun c_8 => ?_)
  · skip
    have c_8' : z_7.toInt ≤ 0 := jb_le (rfl) ((by decide)) c_8
    have hsz_9 := hh_4.2.2.2.2.2.1
    have htt_9 := hh_4.2.2.2.2.2.2.1
    refine W.room (fun hrc_9 hrs_9 => ?_)
    refine W.widen (k := LC - s.heap.size) (n := LS - jTot s.heap) (by omega) (by omega) ?_
    rw [hQ]
    exact W.vret hx hb hr (fun t ht hW => ⟨⟨(pa, n_pa, G0), rfl, by (try dsimp only); exact ⟨(by first | omega | rfl | assumption | fail), (by first | omega | rfl | assumption | fail), (by first | omega | rfl | assumption | fail), (by first | omega | rfl | assumption | fail)⟩, ⟨hh_4.ra (by first | (simp only; omega) | omega) (by first | (simp only; omega) | omega) (M1 := [(r0, 0, 0, .ref pa)]) [2] rfl ht, hg_pa, jNk.rf, by rw [ht]; exact hh_4.iv 0 rfl⟩⟩, by rw [ht]; try exact hh_4.1.1, fun q h9 hq => by rw [ht]; try exact hh_4.1.2.1 q h9 hq⟩) hh_4.1.2.2 dJ5_ensureCapacityInternal_d00df_38
  · skip
    have c_8' : z_7.toInt > 0 := jb_le_n (rfl) ((by decide)) c_8
    refine lv_aload_n hx hb dJ5_ensureCapacityInternal_d00df_17 rfl (lv_at hl 1 rfl) ?_
    refine lv_aload_n hx hb dJ5_ensureCapacityInternal_d00df_18 rfl (lv_at hl 1 rfl) ?_
    refine j7_read hx hb hown hK (C := RJ4) (T := TJ4) (N := 4) rfl hly_0_0 hlk_15 (hh_4.at 2 rfl) dJ5_ensureCapacityInternal_d00df_19 ?_
    refine lv_aload_n hx hb dJ5_ensureCapacityInternal_d00df_22 rfl (lv_at hl 1 rfl) ?_
    refine lv_iload_n hx hb dJ5_ensureCapacityInternal_d00df_23 rfl (lv_at hl 2 rfl) ?_
    have hsz_10 := hh_4.2.2.2.2.2.1
    have htt_10 := hh_4.2.2.2.2.2.2.1
    refine W.room (fun hrc_10 hrs_10 => ?_)
    refine va_calli (A0 := jA base) (H0 := s.heap) (va_runU (As := [.int a1]) (rest := [.ref pa, .ref r0]) ⟨hx, hb, hml, hown, hts⟩ (uJ5_newCapacity_0f7a4 l dC dI ca base B hB hAp hB0 hB196 G0 s.heap r0 a1 pc pa n_pa) (va_cwU 1 hts (jgX (jWr_45 _ (List.mem_of_getElem? (i := 16) rfl)) (jWr_45 _ (List.mem_of_getElem? (i := 17) rfl)) (jWr_45 _ (List.mem_of_getElem? (i := 18) rfl)) (jWr_45 _ (List.mem_of_getElem? (i := 19) rfl)) (jWr_13 _ (List.mem_of_getElem? (i := 7) rfl)) (jWr_45 _ (List.mem_of_getElem? (i := 20) rfl))) rfl rfl rfl rfl (by decide +kernel) ⟨by rw [← hR]; exact Nat.le_of_ble_eq_true rfl, by rw [← hR]; exact Nat.le_of_ble_eq_true rfl⟩) ⟨fun a U g mk q => by obtain ⟨q0, q1, q2, qK, q10, q11, q12, q13⟩ := q; exact ⟨q0, q1, q2, jG.calling g mk a qK, q10, q11, q12, q13⟩, hh_4.recv (C := RJ4) (T := TJ4) (N := 4) hB0 rfl (by decide) hg_r0 hK, fun U hU hW => ⟨rfl, hU, hh_4.2.1, hG.step hW hU hh_4.1, hg_r0, hg_pa, (hh_4.2.2.1.sub (L1 := [(r0, 0, 3, .int pc), (r0, 0, 0, .ref pa)]) [1, 2] rfl), by first | omega | (refine ⟨?_, ?_, ?_⟩ <;> (first | omega | rfl | assumption | decide | exact Or.inl rfl | exact Or.inr rfl | (simp only; omega)))⟩⟩ rfl rfl hl.1 rfl (lv_room (Nat.le_of_ble_eq_true rfl)) dJ5_ensureCapacityInternal_d00df_24 ⟨by rw [hRc]; show _ + 0 ≤ _; omega, by rw [hRs]; show _ + 0 ≤ _; omega⟩) hh_4.1 (fun q _ h => h) (fun q h => h) (fun r_11 u_10 t_10 H_10 locs_10 ht_10 hvm_10 hr_11 hb_10 hz_10 hk_10 hS_10 => ?_)
    rw [ht_10] at hb_10
    obtain ⟨hb_101, hb_102, hb_103, hb_104, hb_105⟩ := hb_10
    have hh_10 : jSt (dC, dI) B base G0 G0 EJ5_ensureCapacityInternal_d00dfM s.heap 0 0 [(r0, 0, 1, .int 0), (r0, 0, 3, .int pc), (r0, 0, 0, .ref pa)] [] [([(0, 0), (0, 1), (0, 2), (0, 3)], jOw (dC, dI) G0 0 r0 s.heap)] H_10 locs_10 := ((hh_4.call hb_101 hb_102 hb_103 hb_104 hS_10 rfl (L1 := [(r0, 0, 1, .int 0), (r0, 0, 3, .int pc), (r0, 0, 0, .ref pa)]) [0, 1, 2] rfl rfl (M1 := []) [] rfl rfl (I1 := [([(0, 0), (0, 1), (0, 2), (0, 3)], jOw (dC, dI) G0 0 r0 s.heap)]) [0] rfl rfl).more hb_105)
    clear hh_4 ht_10 hvm_10 hz_10 hk_10 hS_10 hb_101 hb_102 hb_103 hb_104 hb_105
    obtain ⟨hr_11_0, hr_11_1, hr_11_2⟩ := hr_11
    refine lv_aload_n hx hb dJ5_ensureCapacityInternal_d00df_27 rfl (lv_at hl 1 rfl) ?_
    refine j7_read hx hb hown hK (C := RJ4) (T := TJ4) (N := 4) rfl hly_0_1 hlk_22 (hh_10.at 0 rfl) dJ5_ensureCapacityInternal_d00df_28 ?_
    refine lv_ishl hx hb dJ5_ensureCapacityInternal_d00df_31 ?_
    refine lv_topi (fun z_12 ez_12 => ?_)
    have hz_12 : z_12.toInt = r_11.toInt := by rw [ez_12, jb_shl0]; try exact rfl
    obtain ⟨nc_14, enc_14⟩ : ∃ q : Nat, q = (z_12.toInt).toNat := ⟨_, rfl⟩
    have hsz_13 := hh_10.2.2.2.2.2.1
    have htt_13 := hh_10.2.2.2.2.2.2.1
    refine j7_copyb (LC := LC) (LS := LS) (n1 := nc_14) ⟨hx, hb, hml, hown, hts⟩ hK hG hh_10 hB hB196 (by decide) hbs hg_pa (by omega) (by omega) (by omega) (by omega) (by omega) hRc hRs (va_cwS 2 hts (jgS (jWr_45 _ (List.mem_of_getElem? (i := 23) rfl)) (jWr_16 _ (List.mem_of_getElem? (i := 6) rfl)) (jWr_16 _ (List.mem_of_getElem? (i := 7) rfl)) (jWr_16 _ (List.mem_of_getElem? (i := 8) rfl))) rfl rfl rfl (by decide +kernel) ⟨by rw [← hR]; exact Nat.le_of_ble_eq_true rfl, by rw [← hR]; exact Nat.le_of_ble_eq_true rfl⟩) hl.1 (Nat.le_of_ble_eq_true rfl) dJ5_ensureCapacityInternal_d00df_32 (fun H_13 locs_13 hsy_13 hty_13 hh_13 => ?_)
    have hN_13 : (jNk [0, 1, 2, 3, 4, 5, 6, 7, 8, 9, 10, 11, 12, 13, 14, 15, 16]) G0 (va_up G0 H_10.size (some (196, nc_14))) := jNk.new (by decide)
    have hgn_13 : (va_up G0 H_10.size (some (196, nc_14))) H_10.size = some (196, nc_14) := jUp_self
    have hle_13 : jLe G0 (va_up G0 H_10.size (some (196, nc_14))) := jLe.new hh_10.2.1.fresh
    generalize va_up G0 H_10.size (some (196, nc_14)) = G_13 at hN_13 hgn_13 hle_13 hh_13
    clear hh_10
    have hNn_13 : (jNk [0, 1, 2, 3, 4, 5, 6, 7, 8, 9, 10, 11, 12, 13, 14, 15, 16]) G0 G_13 := (jNk.rf).tr hN_13
    have hg_15 := hle_13 _ _ hg_r0
    have hg_16 := hle_13 _ _ hg_pa
    have hd_18 := hh_13.iv 0 rfl
    have hh_19 := hh_13.sub (L1 := [(r0, 0, 1, .int 0), (r0, 0, 3, .int pc), (r0, 0, 0, .ref pa)]) [0, 1, 2] rfl (M1 := []) [] rfl (I1 := []) [] rfl
    clear hh_13
    refine j7_putX hx hb hown hK hh_19 hB hAp hB0 (C := RJ4) (T := TJ4) (N := 4) rfl (by decide) hg_15 (i := 0) (by decide) hly_0_0 rfl hlk_15 rfl (ty := (.array .byte)) (v := .ref H_10.size) (by decide +kernel) rfl rfl (⟨_, _, rfl, hgn_13, by omega⟩) rfl (L1 := [(r0, 0, 1, .int 0), (r0, 0, 3, .int pc)]) [0, 1] rfl rfl rfl dJ5_ensureCapacityInternal_d00df_35 (fun H_17 locs_17 hr_17 hh_17 => ?_)
    clear hh_19
    have hd_18n := jOw.put hd_18 hr_17
    have hh_20 := hh_17.addI (jOw.ie (dC := dC) (dI := dI) (G0 := G0) (k := 0) (r := r0) (H0 := s.heap) (F := [(0, 0), (0, 1), (0, 2), (0, 3)]) (C := RJ4) (T := TJ4) (N := 4) rfl (by decide) hh_17.2.2.2.2.1 (hd_18n))
    clear hh_17
    clear hd_18 hd_18n hr_17
    have hsz_21 := hh_20.2.2.2.2.2.1
    have htt_21 := hh_20.2.2.2.2.2.2.1
    refine W.room (fun hrc_21 hrs_21 => ?_)
    refine W.widen (k := LC - s.heap.size) (n := LS - jTot s.heap) (by omega) (by omega) ?_
    rw [hQ]
    exact W.vret hx hb hr (fun t ht hW => ⟨⟨(H_10.size, nc_14, G_13), rfl, by (try dsimp only); exact ⟨(by first | omega | rfl | assumption | fail), (by first | omega | rfl | assumption | fail), (by first | omega | rfl | assumption | fail), (by first | omega | rfl | assumption | fail)⟩, ⟨hh_20.ra (by first | (simp only; omega) | omega) (by first | (simp only; omega) | omega) (M1 := [(r0, 0, 0, .ref H_10.size)]) [0] rfl ht, hgn_13, hNn_13, by rw [ht]; exact hh_20.iv 0 rfl⟩⟩, by rw [ht]; try exact hh_20.1.1, fun q h9 hq => by rw [ht]; try exact hh_20.1.2.1 q h9 hq⟩) hh_20.1.2.2 dJ5_ensureCapacityInternal_d00df_38
set_option maxHeartbeats 4000000 in
set_option maxRecDepth 20000 in
theorem uJ5_append_3fe6fM (l : Launch) (dC : Nat → ClassId) (dI : Nat → Nat → Nat) (ca : Nat → ClassId) (base : Nat) (B : jF) (hB : jBok B) (hAp : jAp (dC, dI)) (hB0 : ∀ n G a H, B 0 n G a H ↔ jOb (dC, dI) 0 4 (Fz0 n G) a H) (hB196 : ∀ n G a H, B 196 n G a H ↔ jAr (dC, dI) (ca 0) (fun j z => jBf j z) n a H) (G0 : jT) (H0 : Heap) (r0 : Nat) (a1 : Int32) (pc : Int32) (pa : Nat) (n_pa : Nat) (LC LS : Nat) : Met l yJ5_append_3fe6f (jw yJ5_append_3fe6f cJ5_append_3fe6f 2 (some (.object "java/lang/AbstractStringBuilder"))) ({ frames := 4, cells := LC - H0.size, slots := LS - jTot H0, locals := 102 }) (va_Pc [.ref r0, .int a1] (fun U => U.heap = H0 ∧ jX B base G0 [] H0 ∧ jG dC dI ca base U ∧ G0 r0 = some (0, 0) ∧ G0 pa = some (196, n_pa) ∧ jP (dC, dI) G0 H0 [(r0, 0, 3, .int pc), (r0, 0, 0, .ref pa)] ∧ H0.size + (n_pa + 2) ≤ LC ∧ jTot H0 + (2 * n_pa + 4) ≤ LS ∧ 0 ≤ pc.toInt ∧ pc.toInt ≤ n_pa ∧ 16 ≤ n_pa ∧ n_pa ≤ 400 ∧ 0 ≤ a1.toInt ∧ a1.toInt ≤ 255)) (jQx (S := Int32 × Nat × Nat × jT) (fun v u => jRf G0 0 0 v ∧ u.1.toInt = pc.toInt + 1 ∧ u.1.toInt ≤ u.2.2.1 ∧ n_pa ≤ u.2.2.1 ∧ u.2.2.1 ≤ n_pa + n_pa + 2 ∧ (u.2.2.1 ≤ n_pa ∨ n_pa ≤ pc.toInt)) (fun u t => jRa (dC, dI) B base G0 u.2.2.2 EJ5_append_3fe6fM H0 (u.2.2.1 - n_pa) (2 * (u.2.2.1 - n_pa)) [(r0, 0, 3, .int u.1), (r0, 0, 0, .ref u.2.1)] t.heap ∧ u.2.2.2 u.2.1 = some (196, u.2.2.1) ∧ (jNk [0, 1, 2, 3, 4, 5, 6, 7, 8, 9, 10, 11, 12, 13, 14, 15, 16]) G0 u.2.2.2 ∧ jOw (dC, dI) G0 0 r0 H0 t.heap) (jA base)) (LC - H0.size) (LS - jTot H0) (jA base) := by
  refine Met.ofW (cc := cJ5_append_3fe6f) (maxL := 2) (ret := (some (.object "java/lang/AbstractStringBuilder"))) (by decide) rfl ?_
  intro p e s m args below meth c s₁ Bd hml hv
  obtain ⟨rfl, hH0, hX, hG, hg_r0, hg_pa, hP0, hLC0, hLS0, hp0, hp1, hp2, hp3, hp4, hp5⟩ := hv
  have hK := hG.1
  have hx := Bd.exec
  have hb := Bd.bytes
  have hr := Bd.returns
  have hts := atoms_spec (ws := (jw yJ5_append_3fe6f cJ5_append_3fe6f 2 (some (.object "java/lang/AbstractStringBuilder")))) Bd.pre
  have htw : ∀ w ∈ jWl, w.before _ s = true := fun w h => hts w (List.mem_cons_of_mem _ h)
  have hown : s.vm.findClass RJ5 = some m.cls := findClass_of_methodNamed Bd.named
  have hlocks := Bd.notSynchronized
  obtain ⟨Q, hQ⟩ : ∃ Q, Q = MQ below (jQx (S := Int32 × Nat × Nat × jT) (fun v u => jRf G0 0 0 v ∧ u.1.toInt = pc.toInt + 1 ∧ u.1.toInt ≤ u.2.2.1 ∧ n_pa ≤ u.2.2.1 ∧ u.2.2.1 ≤ n_pa + n_pa + 2 ∧ (u.2.2.1 ≤ n_pa ∨ n_pa ≤ pc.toInt)) (fun u t => jRa (dC, dI) B base G0 u.2.2.2 EJ5_append_3fe6fM H0 (u.2.2.1 - n_pa) (2 * (u.2.2.1 - n_pa)) [(r0, 0, 3, .int u.1), (r0, 0, 0, .ref u.2.1)] t.heap ∧ u.2.2.2 u.2.1 = some (196, u.2.2.1) ∧ (jNk [0, 1, 2, 3, 4, 5, 6, 7, 8, 9, 10, 11, 12, 13, 14, 15, 16]) G0 u.2.2.2 ∧ jOw (dC, dI) G0 0 r0 H0 t.heap) (jA base)) ([.ref r0, .int a1] : List Value).toArray s (LC - H0.size) (LS - jTot H0) (jA base) := ⟨_, rfl⟩
  rw [← hQ]
  have hl := lv_entry ([.ref r0, .int a1]) (n := 2) (Nat.le_of_ble_eq_true rfl)
  rw [lg_entry_eq]
  generalize (lg_sl ([.ref r0, .int a1]) ++ List.replicate (2 - (lg_sl ([.ref r0, .int a1])).length) Slot.unset).toArray = ls at hl ⊢
  have hl : lv_has ls 2 [(0, .ref r0), (1, .int a1)] := hl
  generalize hR : (headSpec (jw yJ5_append_3fe6f cJ5_append_3fe6f 2 (some (.object "java/lang/AbstractStringBuilder"))) ({ frames := 4, cells := LC - H0.size, slots := LS - jTot H0, locals := 102 })).room = R
  subst hH0
  have hh : jSt (dC, dI) B base G0 G0 EJ5_append_3fe6fM s.heap 0 0 [(r0, 0, 3, .int pc), (r0, 0, 0, .ref pa)] [] [] s.heap [] := jSt.start hX hP0 jMc.nil jIs.nil
  clear hX hP0
  have hk0 : (0 : Int32).toInt = 0 := by decide
  have hk1 : (1 : Int32).toInt = 1 := by decide
  have hly_0_0 := htw (u_lay RJ4 TJ4 0) (jWc_wsJ40 _ (u_in_lay (by decide)))
  have hly_0_3 := htw (u_lay RJ4 TJ4 3) (jWc_wsJ40 _ (u_in_lay (by decide)))
  have hlk_79 := (htw (.fieldLink RJ5 79 "java/lang/AbstractStringBuilder" "count" "I") (jWr_45 _ (List.mem_of_getElem? (i := 9) rfl)))
  have hlk_15 := (htw (.fieldLink RJ5 15 "java/lang/AbstractStringBuilder" "value" "[B") (jWr_13 _ (List.mem_of_getElem? (i := 11) rfl)))
  have hrg_a1 := jb_rng a1
  have hbs : base ≤ s.heap.size := Nat.le_of_lt (Nat.lt_of_le_of_lt (hh.ab hg_r0).1 (hh.ab hg_r0).2)
  have hRc : R.cells = LC - s.heap.size := by rw [← hR]; rfl
  have hRs : R.slots = LS - jTot s.heap := by rw [← hR]; rfl
  have hh_1 := hh.addI (jOw.ie (dC := dC) (dI := dI) (G0 := G0) (k := 0) (r := r0) (H0 := s.heap) (F := [(0, 0), (0, 1), (0, 2), (0, 3)]) (C := RJ4) (T := TJ4) (N := 4) rfl (by decide) hh.2.2.2.2.1 (jOw.rf))
  clear hh
  refine lv_aload_n hx hb dJ5_append_3fe6f_0 rfl (lv_at hl 0 rfl) ?_
  refine lv_aload_n hx hb dJ5_append_3fe6f_1 rfl (lv_at hl 0 rfl) ?_
  refine j7_read hx hb hown hK (C := RJ4) (T := TJ4) (N := 4) rfl hly_0_3 hlk_79 (hh_1.at 0 rfl) dJ5_append_3fe6f_2 ?_
  refine lv_iconst (v := 1) hx hb dJ5_append_3fe6f_5 (by decide) ?_
  refine lv_iadd hx hb dJ5_append_3fe6f_6 ?_
  refine lv_topi (fun z_2 ez_2 => ?_)
  have hz_2 : z_2.toInt = pc.toInt + 1 := by rw [ez_2]; exact jb_iadd2 (rfl) ((by decide)) (by omega)
  have hsz_3 := hh_1.2.2.2.2.2.1
  have htt_3 := hh_1.2.2.2.2.2.2.1
  refine W.room (fun hrc_3 hrs_3 => ?_)
  refine va_callv (A0 := jA base) (H0 := s.heap) (va_runU (As := [.int z_2]) (rest := []) ⟨hx, hb, hml, hown, hts⟩ (uJ5_ensureCapacityInternal_d00dfM l dC dI ca base B hB hAp hB0 hB196 G0 s.heap r0 z_2 pc pa n_pa LC LS) (va_cwU 1 hts (jgX (jWr_45 _ (List.mem_of_getElem? (i := 11) rfl)) (jWr_45 _ (List.mem_of_getElem? (i := 12) rfl)) (jWr_45 _ (List.mem_of_getElem? (i := 13) rfl)) (jWr_45 _ (List.mem_of_getElem? (i := 14) rfl)) (jWr_13 _ (List.mem_of_getElem? (i := 7) rfl)) (jWr_45 _ (List.mem_of_getElem? (i := 15) rfl))) rfl rfl rfl rfl (by decide +kernel) ⟨by rw [← hR]; exact Nat.le_of_ble_eq_true rfl, by rw [← hR]; exact Nat.le_of_ble_eq_true rfl⟩) ⟨fun a U g mk q => by obtain ⟨q0, q1, q2, qK, q10, q11, q12, q13⟩ := q; exact ⟨q0, q1, q2, jG.calling g mk a qK, q10, q11, q12, q13⟩, hh_1.recv (C := RJ4) (T := TJ4) (N := 4) hB0 rfl (by decide) hg_r0 hK, fun U hU hW => ⟨rfl, hU, hh_1.2.1, hG.step hW hU hh_1.1, hg_r0, hg_pa, (hh_1.2.2.1.sub (L1 := [(r0, 0, 3, .int pc), (r0, 0, 0, .ref pa)]) [0, 1] rfl), by first | omega | (refine ⟨?_, ?_, ?_, ?_⟩ <;> (first | omega | rfl | assumption | decide | exact Or.inl rfl | exact Or.inr rfl | (simp only; omega)))⟩⟩ rfl rfl hl.1 rfl (lv_room (Nat.le_of_ble_eq_true rfl)) dJ5_append_3fe6f_7 ⟨by rw [hRc]; omega, by rw [hRs]; omega⟩) hh_1.1 (fun q _ h => h) (fun q h => h) (fun u_3 t_3 H_3 locs_3 ht_3 hvm_3 hr_4 hb_3 hz_3 hk_3 hS_3 => ?_)
  rw [ht_3] at hb_3
  obtain ⟨qa_3, m_qa_3, G_3⟩ := u_3
  simp only at hb_3
  obtain ⟨⟨hb_31, hb_32, hb_33, hb_34, hb_35, hb_36⟩, hgq_3_0, hN_3, hbO_3⟩ := hb_3
  have hh_3 : jSt (dC, dI) B base G0 G_3 EJ5_append_3fe6fM s.heap (0 + (m_qa_3 - n_pa)) (0 + (2 * (m_qa_3 - n_pa))) [(r0, 0, 0, .ref qa_3), (r0, 0, 3, .int pc)] [] [] H_3 locs_3 := (hh_1.callG hb_31 hb_32 hb_33 hb_34 hb_35 hS_3 rfl (L1 := [(r0, 0, 3, .int pc)]) [0] rfl rfl (M1 := []) [] rfl rfl (I1 := []) [] rfl rfl).more hb_36
  have hNn_3 : (jNk [0, 1, 2, 3, 4, 5, 6, 7, 8, 9, 10, 11, 12, 13, 14, 15, 16]) G0 G_3 := (jNk.rf).tr hN_3
  have hg_5 := hb_32 _ _ hg_r0
  have hd_6 := jOw.tr (hh_1.iv 0 rfl) hh_1.2.2.2.2.1 hbO_3
  have hh_7 := hh_3.addI (jOw.ie (dC := dC) (dI := dI) (G0 := G0) (k := 0) (r := r0) (H0 := s.heap) (F := [(0, 0), (0, 1), (0, 2), (0, 3)]) (C := RJ4) (T := TJ4) (N := 4) rfl (by decide) hh_3.2.2.2.2.1 (hd_6))
  clear hh_3
  try simp only at hr_4
  obtain ⟨hr_4_0, hr_4_1, hr_4_2, hr_4_3⟩ := hr_4
  refine lv_aload_n hx hb dJ5_append_3fe6f_10 rfl (lv_at hl 0 rfl) ?_
  have hsz_8 := hh_7.2.2.2.2.2.1
  have htt_8 := hh_7.2.2.2.2.2.2.1
  refine W.room (fun hrc_8 hrs_8 => ?_)
  refine va_calli (A0 := jA base) (H0 := s.heap) (va_runU (As := []) (rest := []) ⟨hx, hb, hml, hown, hts⟩ (uJ5_isLatin1_aae02 l dC dI ca base B hB hAp hB0 G_3 H_3 r0) (va_cwU 0 hts (jgX (jWr_46 _ (List.mem_of_getElem? (i := 0) rfl)) (jWr_46 _ (List.mem_of_getElem? (i := 1) rfl)) (jWr_46 _ (List.mem_of_getElem? (i := 2) rfl)) (jWr_46 _ (List.mem_of_getElem? (i := 3) rfl)) (jWr_13 _ (List.mem_of_getElem? (i := 7) rfl)) (jWr_46 _ (List.mem_of_getElem? (i := 4) rfl))) rfl rfl rfl rfl (by decide +kernel) ⟨by rw [← hR]; exact Nat.le_of_ble_eq_true rfl, by rw [← hR]; exact Nat.le_of_ble_eq_true rfl⟩) ⟨fun a U g mk q => by obtain ⟨q0, q1, q2, qK, q10, q11, q12⟩ := q; exact ⟨q0, q1, q2, jG.calling g mk a qK, q10, q11, q12⟩, hh_7.recv (C := RJ4) (T := TJ4) (N := 4) hB0 rfl (by decide) hg_5 hK, fun U hU hW => ⟨rfl, hU, hh_7.2.1, hG.step hW hU hh_7.1, hg_5, jP.nil, trivial⟩⟩ rfl rfl hl.1 rfl (lv_room (Nat.le_of_ble_eq_true rfl)) dJ5_append_3fe6f_11 ⟨by rw [hRc]; show _ + 0 ≤ _; omega, by rw [hRs]; show _ + 0 ≤ _; omega⟩) hh_7.1 (fun q _ h => h) (fun q h => h) (fun r_9 u_8 t_8 H_8 locs_8 ht_8 hvm_8 hr_9 hb_8 hz_8 hk_8 hS_8 => ?_)
  rw [ht_8] at hb_8
  obtain ⟨hb_81, hb_82, hb_83, hb_84, hb_85⟩ := hb_8
  have hh_8 : jSt (dC, dI) B base G0 G_3 EJ5_append_3fe6fM s.heap (0 + (m_qa_3 - n_pa)) (0 + (2 * (m_qa_3 - n_pa))) [(r0, 0, 0, .ref qa_3), (r0, 0, 3, .int pc)] [] [([(0, 0), (0, 1), (0, 2), (0, 3)], jOw (dC, dI) G0 0 r0 s.heap)] H_8 locs_8 := ((hh_7.call hb_81 hb_82 hb_83 hb_84 hS_8 rfl (L1 := [(r0, 0, 0, .ref qa_3), (r0, 0, 3, .int pc)]) [0, 1] rfl rfl (M1 := []) [] rfl rfl (I1 := [([(0, 0), (0, 1), (0, 2), (0, 3)], jOw (dC, dI) G0 0 r0 s.heap)]) [0] rfl rfl).more hb_85)
  clear hh_7 ht_8 hvm_8 hz_8 hk_8 hS_8 hb_81 hb_82 hb_83 hb_84 hb_85
  obtain ⟨hr_9b, hr_9p⟩ := hr_9
  have hr_9' := jb_01 hr_9b
  refine lv_if_eq (tgt := 45) hx hb dJ5_append_3fe6f_14 (by decide) (fun c_10 => ?_) (fun c_10 => ?_)
  · skip
    have c_10' : r_9.toInt = 0 := jb_eq (rfl) ((by decide)) c_10
    exact absurd c_10' (by omega)
  · skip
    have c_10' : r_9.toInt ≠ 0 := jb_eq_n (rfl) ((by decide)) c_10
    refine lv_iload_n hx hb dJ5_append_3fe6f_17 rfl (lv_at hl 1 rfl) ?_
    have hsz_11 := hh_8.2.2.2.2.2.1
    have htt_11 := hh_8.2.2.2.2.2.2.1
    refine W.room (fun hrc_11 hrs_11 => ?_)
    refine va_calli (A0 := jA base) (H0 := s.heap) (va_runS (As := [.int a1]) (rest := []) ⟨hx, hb, hml, hown, hts⟩ (uJ1_canEncode_fc78dK l dC dI ca base B hB hAp G_3 H_8 a1) (va_cwS 1 hts (jgS (jWr_47 _ (List.mem_of_getElem? (i := 2) rfl)) (jWr_47 _ (List.mem_of_getElem? (i := 3) rfl)) (jWr_6 _ (List.mem_of_getElem? (i := 10) rfl)) (jWr_47 _ (List.mem_of_getElem? (i := 4) rfl))) rfl rfl rfl (by decide +kernel) ⟨by rw [← hR]; exact Nat.le_of_ble_eq_true rfl, by rw [← hR]; exact Nat.le_of_ble_eq_true rfl⟩) ⟨fun a U g mk q => by obtain ⟨q0, q1, q2, qK, q10, q11⟩ := q; exact ⟨q0, q1, q2, jG.calling g mk a qK, q10, q11⟩, fun U hU hW => ⟨rfl, hU, hh_8.2.1, hG.step hW hU hh_8.1, jP.nil, by first | omega | (refine ⟨?_, ?_⟩ <;> (first | omega | rfl | assumption | decide | exact Or.inl rfl | exact Or.inr rfl | (simp only; omega)))⟩⟩ rfl rfl hl.1 rfl (lv_room (Nat.le_of_ble_eq_true rfl)) dJ5_append_3fe6f_18 ⟨by rw [hRc]; show _ + 0 ≤ _; omega, by rw [hRs]; show _ + 0 ≤ _; omega⟩) hh_8.1 (fun q _ h => h) (fun q h => h) (fun r_12 u_11 t_11 H_11 locs_11 ht_11 hvm_11 hr_12 hb_11 hz_11 hk_11 hS_11 => ?_)
    rw [ht_11] at hb_11
    obtain ⟨hb_111, hb_112, hb_113, hb_114, hb_115⟩ := hb_11
    have hh_11 : jSt (dC, dI) B base G0 G_3 EJ5_append_3fe6fM s.heap (0 + (m_qa_3 - n_pa)) (0 + (2 * (m_qa_3 - n_pa))) [(r0, 0, 0, .ref qa_3), (r0, 0, 3, .int pc)] [] [([(0, 0), (0, 1), (0, 2), (0, 3)], jOw (dC, dI) G0 0 r0 s.heap)] H_11 locs_11 := ((hh_8.call hb_111 hb_112 hb_113 hb_114 hS_11 rfl (L1 := [(r0, 0, 0, .ref qa_3), (r0, 0, 3, .int pc)]) [0, 1] rfl rfl (M1 := []) [] rfl rfl (I1 := [([(0, 0), (0, 1), (0, 2), (0, 3)], jOw (dC, dI) G0 0 r0 s.heap)]) [0] rfl rfl).more hb_115)
    clear hh_8 ht_11 hvm_11 hz_11 hk_11 hS_11 hb_111 hb_112 hb_113 hb_114 hb_115
    obtain ⟨hr_12b, hr_12p⟩ := hr_12
    have hr_12' := jb_01 hr_12b
    refine lv_if_eq (tgt := 45) hx hb dJ5_append_3fe6f_21 (by decide) (fun c_13 => ?_) (fun c_13 => ?_)
    · skip
      have c_13' : r_12.toInt = 0 := jb_eq (rfl) ((by decide)) c_13
      exact absurd c_13' (by omega)
    · skip
      have c_13' : r_12.toInt ≠ 0 := jb_eq_n (rfl) ((by decide)) c_13
      refine lv_aload_n hx hb dJ5_append_3fe6f_24 rfl (lv_at hl 0 rfl) ?_
      refine j7_read hx hb hown hK (C := RJ4) (T := TJ4) (N := 4) rfl hly_0_0 hlk_15 (hh_11.at 0 rfl) dJ5_append_3fe6f_25 ?_
      refine lv_aload_n hx hb dJ5_append_3fe6f_28 rfl (lv_at hl 0 rfl) ?_
      refine lv_dup hx hb dJ5_append_3fe6f_29 rfl ?_
      refine j7_read hx hb hown hK (C := RJ4) (T := TJ4) (N := 4) rfl hly_0_3 hlk_79 (hh_11.at 1 rfl) dJ5_append_3fe6f_30 ?_
      refine lv_dup_x1 hx hb dJ5_append_3fe6f_33 rfl rfl ?_
      refine lv_iconst (v := 1) hx hb dJ5_append_3fe6f_34 (by decide) ?_
      refine lv_iadd hx hb dJ5_append_3fe6f_35 ?_
      refine lv_topi (fun z_14 ez_14 => ?_)
      have hz_14 : z_14.toInt = pc.toInt + 1 := by rw [ez_14]; exact jb_iadd2 (rfl) ((by decide)) (by omega)
      have hd_16 := hh_11.iv 0 rfl
      have hh_17 := hh_11.sub (L1 := [(r0, 0, 0, .ref qa_3), (r0, 0, 3, .int pc)]) [0, 1] rfl (M1 := []) [] rfl (I1 := []) [] rfl
      clear hh_11
      refine j7_putX hx hb hown hK hh_17 hB hAp hB0 (C := RJ4) (T := TJ4) (N := 4) rfl (by decide) hg_5 (i := 3) (by decide) hly_0_3 rfl hlk_79 rfl (ty := .int) (v := .int z_14) (by decide +kernel) rfl rfl (⟨_, rfl, by omega, by omega⟩) rfl (L1 := [(r0, 0, 0, .ref qa_3)]) [0] rfl rfl rfl dJ5_append_3fe6f_36 (fun H_15 locs_15 hr_15 hh_15 => ?_)
      clear hh_17
      have hd_16n := jOw.put hd_16 hr_15
      have hh_18 := hh_15.addI (jOw.ie (dC := dC) (dI := dI) (G0 := G0) (k := 0) (r := r0) (H0 := s.heap) (F := [(0, 0), (0, 1), (0, 2), (0, 3)]) (C := RJ4) (T := TJ4) (N := 4) rfl (by decide) hh_15.2.2.2.2.1 (hd_16n))
      clear hh_15
      clear hd_16 hd_16n hr_15
      refine lv_iload_n hx hb dJ5_append_3fe6f_39 rfl (lv_at hl 1 rfl) ?_
      refine lv_i2b hx hb dJ5_append_3fe6f_40 rfl ?_
      refine lv_topi (fun z_19 ez_19 => ?_)
      refine j7_bastF hx hb hK hh_18 hB hB196 0 rfl (by decide) (by decide) rfl rfl rfl hgq_3_0 (x := pc.toInt) (rfl) (by omega) dJ5_append_3fe6f_41 (fun H_20 locs_20 hh_20 => ?_)
      clear hh_18
      refine lv_goto (tgt := 75) hx hb dJ5_append_3fe6f_42 (by decide) ?_
      refine lv_aload_n hx hb dJ5_append_3fe6f_75 rfl (lv_at hl 0 rfl) ?_
      have hsz_21 := hh_20.2.2.2.2.2.1
      have htt_21 := hh_20.2.2.2.2.2.2.1
      refine W.room (fun hrc_21 hrs_21 => ?_)
      refine W.widen (k := LC - s.heap.size) (n := LS - jTot s.heap) (by omega) (by omega) ?_
      rw [hQ]
      exact W.aret (v := .ref r0) hx hb hr (Or.inl ⟨_, rfl⟩) (Or.inr ⟨_, rfl⟩) (fun t ht hW => ⟨⟨.ref r0, (z_14, qa_3, m_qa_3, G_3), rfl, ⟨⟨_, rfl, hg_r0⟩, by (try dsimp only); exact ⟨(by first | omega | rfl | assumption | fail), (by first | omega | rfl | assumption | fail), (by first | omega | rfl | assumption | fail), (by first | omega | rfl | assumption | fail), (by first | omega | rfl | assumption | fail)⟩⟩, ⟨hh_20.ra (by first | (simp only; omega) | omega) (by first | (simp only; omega) | omega) (M1 := [(r0, 0, 3, .int z_14), (r0, 0, 0, .ref qa_3)]) [0, 1] rfl ht, hgq_3_0, hNn_3, by rw [ht]; exact hh_20.iv 0 rfl⟩⟩, by rw [ht]; try exact hh_20.1.1, fun q h9 hq => by rw [ht]; try exact hh_20.1.2.1 q h9 hq⟩) hh_20.1.2.2 dJ5_append_3fe6f_76
set_option maxHeartbeats 4000000 in
set_option maxRecDepth 20000 in
theorem uJ4_append_cf468M (l : Launch) (dC : Nat → ClassId) (dI : Nat → Nat → Nat) (ca : Nat → ClassId) (base : Nat) (B : jF) (hB : jBok B) (hAp : jAp (dC, dI)) (hB0 : ∀ n G a H, B 0 n G a H ↔ jOb (dC, dI) 0 4 (Fz0 n G) a H) (hB196 : ∀ n G a H, B 196 n G a H ↔ jAr (dC, dI) (ca 0) (fun j z => jBf j z) n a H) (G0 : jT) (H0 : Heap) (r0 : Nat) (a1 : Int32) (pc : Int32) (pa : Nat) (n_pa : Nat) (LC LS : Nat) : Met l yJ4_append_cf468 (jw yJ4_append_cf468 cJ4_append_cf468 2 (some (.object "java/lang/StringBuilder"))) ({ frames := 5, cells := LC - H0.size, slots := LS - jTot H0, locals := 123 }) (va_Pc [.ref r0, .int a1] (fun U => U.heap = H0 ∧ jX B base G0 [] H0 ∧ jG dC dI ca base U ∧ G0 r0 = some (0, 0) ∧ G0 pa = some (196, n_pa) ∧ jP (dC, dI) G0 H0 [(r0, 0, 3, .int pc), (r0, 0, 0, .ref pa)] ∧ H0.size + (n_pa + 2) ≤ LC ∧ jTot H0 + (2 * n_pa + 4) ≤ LS ∧ 0 ≤ pc.toInt ∧ pc.toInt ≤ n_pa ∧ 16 ≤ n_pa ∧ n_pa ≤ 400 ∧ 0 ≤ a1.toInt ∧ a1.toInt ≤ 255)) (jQx (S := Int32 × Nat × Nat × jT) (fun v u => jRf G0 0 0 v ∧ u.1.toInt = pc.toInt + 1 ∧ u.1.toInt ≤ u.2.2.1 ∧ n_pa ≤ u.2.2.1 ∧ u.2.2.1 ≤ n_pa + n_pa + 2 ∧ (u.2.2.1 ≤ n_pa ∨ n_pa ≤ pc.toInt)) (fun u t => jRa (dC, dI) B base G0 u.2.2.2 EJ4_append_cf468M H0 (u.2.2.1 - n_pa) (2 * (u.2.2.1 - n_pa)) [(r0, 0, 3, .int u.1), (r0, 0, 0, .ref u.2.1)] t.heap ∧ u.2.2.2 u.2.1 = some (196, u.2.2.1) ∧ (jNk [0, 1, 2, 3, 4, 5, 6, 7, 8, 9, 10, 11, 12, 13, 14, 15, 16]) G0 u.2.2.2 ∧ jOw (dC, dI) G0 0 r0 H0 t.heap) (jA base)) (LC - H0.size) (LS - jTot H0) (jA base) := by
  refine Met.ofW (cc := cJ4_append_cf468) (maxL := 2) (ret := (some (.object "java/lang/StringBuilder"))) (by decide) rfl ?_
  intro p e s m args below meth c s₁ Bd hml hv
  obtain ⟨rfl, hH0, hX, hG, hg_r0, hg_pa, hP0, hLC0, hLS0, hp0, hp1, hp2, hp3, hp4, hp5⟩ := hv
  have hK := hG.1
  have hx := Bd.exec
  have hb := Bd.bytes
  have hr := Bd.returns
  have hts := atoms_spec (ws := (jw yJ4_append_cf468 cJ4_append_cf468 2 (some (.object "java/lang/StringBuilder")))) Bd.pre
  have htw : ∀ w ∈ jWl, w.before _ s = true := fun w h => hts w (List.mem_cons_of_mem _ h)
  have hown : s.vm.findClass RJ4 = some m.cls := findClass_of_methodNamed Bd.named
  have hlocks := Bd.notSynchronized
  obtain ⟨Q, hQ⟩ : ∃ Q, Q = MQ below (jQx (S := Int32 × Nat × Nat × jT) (fun v u => jRf G0 0 0 v ∧ u.1.toInt = pc.toInt + 1 ∧ u.1.toInt ≤ u.2.2.1 ∧ n_pa ≤ u.2.2.1 ∧ u.2.2.1 ≤ n_pa + n_pa + 2 ∧ (u.2.2.1 ≤ n_pa ∨ n_pa ≤ pc.toInt)) (fun u t => jRa (dC, dI) B base G0 u.2.2.2 EJ4_append_cf468M H0 (u.2.2.1 - n_pa) (2 * (u.2.2.1 - n_pa)) [(r0, 0, 3, .int u.1), (r0, 0, 0, .ref u.2.1)] t.heap ∧ u.2.2.2 u.2.1 = some (196, u.2.2.1) ∧ (jNk [0, 1, 2, 3, 4, 5, 6, 7, 8, 9, 10, 11, 12, 13, 14, 15, 16]) G0 u.2.2.2 ∧ jOw (dC, dI) G0 0 r0 H0 t.heap) (jA base)) ([.ref r0, .int a1] : List Value).toArray s (LC - H0.size) (LS - jTot H0) (jA base) := ⟨_, rfl⟩
  rw [← hQ]
  have hl := lv_entry ([.ref r0, .int a1]) (n := 2) (Nat.le_of_ble_eq_true rfl)
  rw [lg_entry_eq]
  generalize (lg_sl ([.ref r0, .int a1]) ++ List.replicate (2 - (lg_sl ([.ref r0, .int a1])).length) Slot.unset).toArray = ls at hl ⊢
  have hl : lv_has ls 2 [(0, .ref r0), (1, .int a1)] := hl
  generalize hR : (headSpec (jw yJ4_append_cf468 cJ4_append_cf468 2 (some (.object "java/lang/StringBuilder"))) ({ frames := 5, cells := LC - H0.size, slots := LS - jTot H0, locals := 123 })).room = R
  subst hH0
  have hh : jSt (dC, dI) B base G0 G0 EJ4_append_cf468M s.heap 0 0 [(r0, 0, 3, .int pc), (r0, 0, 0, .ref pa)] [] [] s.heap [] := jSt.start hX hP0 jMc.nil jIs.nil
  clear hX hP0
  have hk0 : (0 : Int32).toInt = 0 := by decide
  have hk1 : (1 : Int32).toInt = 1 := by decide
  have hrg_a1 := jb_rng a1
  have hbs : base ≤ s.heap.size := Nat.le_of_lt (Nat.lt_of_le_of_lt (hh.ab hg_r0).1 (hh.ab hg_r0).2)
  have hRc : R.cells = LC - s.heap.size := by rw [← hR]; rfl
  have hRs : R.slots = LS - jTot s.heap := by rw [← hR]; rfl
  have hh_1 := hh.addI (jOw.ie (dC := dC) (dI := dI) (G0 := G0) (k := 0) (r := r0) (H0 := s.heap) (F := [(0, 0), (0, 1), (0, 2), (0, 3)]) (C := RJ4) (T := TJ4) (N := 4) rfl (by decide) hh.2.2.2.2.1 (jOw.rf))
  clear hh
  refine lv_aload_n hx hb dJ4_append_cf468_0 rfl (lv_at hl 0 rfl) ?_
  refine lv_iload_n hx hb dJ4_append_cf468_1 rfl (lv_at hl 1 rfl) ?_
  have hsz_2 := hh_1.2.2.2.2.2.1
  have htt_2 := hh_1.2.2.2.2.2.2.1
  refine W.room (fun hrc_2 hrs_2 => ?_)
  refine j_callx (A0 := jA base) (H0 := s.heap) (va_runSU (hK.1 0 _ rfl).2 (As := [.int a1]) (rest := []) ⟨hx, hb, hml, hown, hts⟩ (uJ5_append_3fe6fM l dC dI ca base B hB hAp hB0 hB196 G0 s.heap r0 a1 pc pa n_pa LC LS) (va_cwSU 1 hts (jgU (jWr_46 _ (List.mem_of_getElem? (i := 22) rfl)) (jWr_46 _ (List.mem_of_getElem? (i := 23) rfl)) (jWr_45 _ (List.mem_of_getElem? (i := 6) rfl)) (jWr_47 _ (List.mem_of_getElem? (i := 0) rfl)) (jWr_13 _ (List.mem_of_getElem? (i := 7) rfl)) (jWr_47 _ (List.mem_of_getElem? (i := 1) rfl))) rfl rfl rfl (by decide +kernel) ⟨by rw [← hR]; exact Nat.le_of_ble_eq_true rfl, by rw [← hR]; exact Nat.le_of_ble_eq_true rfl⟩) ⟨fun a U g mk q => by obtain ⟨q0, q1, q2, qK, q10, q11, q12, q13⟩ := q; exact ⟨q0, q1, q2, jG.calling g mk a qK, q10, q11, q12, q13⟩, hh_1.recv (C := RJ4) (T := TJ4) (N := 4) hB0 rfl (by decide) hg_r0 hK, fun U hU hW => ⟨rfl, hU, hh_1.2.1, hG.step hW hU hh_1.1, hg_r0, hg_pa, (hh_1.2.2.1.sub (L1 := [(r0, 0, 3, .int pc), (r0, 0, 0, .ref pa)]) [0, 1] rfl), by first | omega | (refine ⟨?_, ?_, ?_, ?_, ?_, ?_⟩ <;> (first | omega | rfl | assumption | decide | exact Or.inl rfl | exact Or.inr rfl | (simp only; omega)))⟩⟩ rfl rfl hl.1 rfl (lv_room (Nat.le_of_ble_eq_true rfl)) dJ4_append_cf468_2 ⟨by rw [hRc]; omega, by rw [hRs]; omega⟩) hh_1.1 (fun q _ h => h) (fun q h => h) (fun r_3 u_2 t_2 H_2 locs_2 ht_2 hvm_2 hr_3 hb_2 hz_2 hk_2 hS_2 => ?_)
  obtain ⟨qc_2, qa_2, m_qa_2, G_2⟩ := u_2
  rw [ht_2] at hb_2
  simp only at hb_2
  obtain ⟨⟨hb_21, hb_22, hb_23, hb_24, hb_25, hb_26⟩, hgq_2_0, hN_2, hbO_2⟩ := hb_2
  have hh_2 : jSt (dC, dI) B base G0 G_2 EJ4_append_cf468M s.heap (0 + (m_qa_2 - n_pa)) (0 + (2 * (m_qa_2 - n_pa))) [(r0, 0, 3, .int qc_2), (r0, 0, 0, .ref qa_2)] [] [] H_2 locs_2 := (hh_1.callG hb_21 hb_22 hb_23 hb_24 hb_25 hS_2 rfl (L1 := []) [] rfl rfl (M1 := []) [] rfl rfl (I1 := []) [] rfl rfl).more hb_26
  have hNn_2 : (jNk [0, 1, 2, 3, 4, 5, 6, 7, 8, 9, 10, 11, 12, 13, 14, 15, 16]) G0 G_2 := (jNk.rf).tr hN_2
  have hg_4 := hb_22 _ _ hg_r0
  have hd_5 := jOw.tr (hh_1.iv 0 rfl) hh_1.2.2.2.2.1 hbO_2
  have hh_6 := hh_2.addI (jOw.ie (dC := dC) (dI := dI) (G0 := G0) (k := 0) (r := r0) (H0 := s.heap) (F := [(0, 0), (0, 1), (0, 2), (0, 3)]) (C := RJ4) (T := TJ4) (N := 4) rfl (by decide) hh_2.2.2.2.2.1 (hd_5))
  clear hh_2
  obtain ⟨hr_3, hr_3p⟩ := hr_3
  try simp only at hr_3p
  obtain ⟨hr_3p_0, hr_3p_1, hr_3p_2, hr_3p_3, hr_3p_4⟩ := hr_3p
  obtain ⟨ret_7, rfl, hg_ret_7⟩ := hr_3
  have hg_8 := hb_22 _ _ hg_ret_7
  refine lv_pop hx hb dJ4_append_cf468_5 rfl ?_
  refine lv_aload_n hx hb dJ4_append_cf468_6 rfl (lv_at hl 0 rfl) ?_
  have hsz_9 := hh_6.2.2.2.2.2.1
  have htt_9 := hh_6.2.2.2.2.2.2.1
  refine W.room (fun hrc_9 hrs_9 => ?_)
  refine W.widen (k := LC - s.heap.size) (n := LS - jTot s.heap) (by omega) (by omega) ?_
  rw [hQ]
  exact W.aret (v := .ref r0) hx hb hr (Or.inl ⟨_, rfl⟩) (Or.inr ⟨_, rfl⟩) (fun t ht hW => ⟨⟨.ref r0, (qc_2, qa_2, m_qa_2, G_2), rfl, ⟨⟨_, rfl, hg_r0⟩, by (try dsimp only); exact ⟨(by first | omega | rfl | assumption | fail), (by first | omega | rfl | assumption | fail), (by first | omega | rfl | assumption | fail), (by first | omega | rfl | assumption | fail), (by first | omega | rfl | assumption | fail)⟩⟩, ⟨hh_6.ra (by first | (simp only; omega) | omega) (by first | (simp only; omega) | omega) (M1 := [(r0, 0, 3, .int qc_2), (r0, 0, 0, .ref qa_2)]) [0, 1] rfl ht, hgq_2_0, hNn_2, by rw [ht]; exact hh_6.iv 0 rfl⟩⟩, by rw [ht]; try exact hh_6.1.1, fun q h9 hq => by rw [ht]; try exact hh_6.1.2.1 q h9 hq⟩) hh_6.1.2.2 dJ4_append_cf468_7
end
