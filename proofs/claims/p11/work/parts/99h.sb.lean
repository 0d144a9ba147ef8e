def Fz0 (n : Nat) (G : jT) : List (Value → Prop) := [jRk G 196 1000, jI 0 0, jZb, jI 0 1000]
theorem dJ5_length_8abf5_0 : decode cJ5_length_8abf5 0 = .ok (.aload_n 0, 1) := by decide +kernel
theorem dJ5_length_8abf5_1 : decode cJ5_length_8abf5 1 = .ok (.getfield 79, 3) := by decide +kernel
theorem dJ5_length_8abf5_4 : decode cJ5_length_8abf5 4 = .ok (.ireturn, 1) := by decide +kernel
theorem dJ5_charAt_5068e_0 : decode cJ5_charAt_5068e 0 = .ok (.aload_n 0, 1) := by decide +kernel
theorem dJ5_charAt_5068e_1 : decode cJ5_charAt_5068e 1 = .ok (.getfield 22, 3) := by decide +kernel
theorem dJ5_charAt_5068e_4 : decode cJ5_charAt_5068e 4 = .ok (.istore_n 2, 1) := by decide +kernel
theorem dJ5_charAt_5068e_5 : decode cJ5_charAt_5068e 5 = .ok (.aload_n 0, 1) := by decide +kernel
theorem dJ5_charAt_5068e_6 : decode cJ5_charAt_5068e 6 = .ok (.getfield 15, 3) := by decide +kernel
theorem dJ5_charAt_5068e_9 : decode cJ5_charAt_5068e 9 = .ok (.astore_n 3, 1) := by decide +kernel
theorem dJ5_charAt_5068e_10 : decode cJ5_charAt_5068e 10 = .ok (.aload_n 0, 1) := by decide +kernel
theorem dJ5_charAt_5068e_11 : decode cJ5_charAt_5068e 11 = .ok (.getfield 79, 3) := by decide +kernel
theorem dJ5_charAt_5068e_14 : decode cJ5_charAt_5068e 14 = .ok (.aload_n 3, 1) := by decide +kernel
theorem dJ5_charAt_5068e_15 : decode cJ5_charAt_5068e 15 = .ok (.arraylength, 1) := by decide +kernel
theorem dJ5_charAt_5068e_16 : decode cJ5_charAt_5068e 16 = .ok (.iload_n 2, 1) := by decide +kernel
theorem dJ5_charAt_5068e_17 : decode cJ5_charAt_5068e 17 = .ok (.ishr, 1) := by decide +kernel
theorem dJ5_charAt_5068e_18 : decode cJ5_charAt_5068e 18 = .ok (.invokestatic 138, 3) := by decide +kernel
theorem dJ5_charAt_5068e_21 : decode cJ5_charAt_5068e 21 = .ok (.istore 4, 2) := by decide +kernel
theorem dJ5_charAt_5068e_23 : decode cJ5_charAt_5068e 23 = .ok (.iload_n 1, 1) := by decide +kernel
theorem dJ5_charAt_5068e_24 : decode cJ5_charAt_5068e 24 = .ok (.iload 4, 2) := by decide +kernel
theorem dJ5_charAt_5068e_26 : decode cJ5_charAt_5068e 26 = .ok (.invokestatic 144, 3) := by decide +kernel
theorem dJ5_charAt_5068e_29 : decode cJ5_charAt_5068e 29 = .ok (.iload_n 2, 1) := by decide +kernel
theorem dJ5_charAt_5068e_30 : decode cJ5_charAt_5068e 30 = .ok (.ifCond .ne 12, 3) := by decide +kernel
theorem dJ5_charAt_5068e_33 : decode cJ5_charAt_5068e 33 = .ok (.aload_n 3, 1) := by decide +kernel
theorem dJ5_charAt_5068e_34 : decode cJ5_charAt_5068e 34 = .ok (.iload_n 1, 1) := by decide +kernel
theorem dJ5_charAt_5068e_35 : decode cJ5_charAt_5068e 35 = .ok (.baload, 1) := by decide +kernel
theorem dJ5_charAt_5068e_36 : decode cJ5_charAt_5068e 36 = .ok (.sipush 255, 3) := by decide +kernel
theorem dJ5_charAt_5068e_39 : decode cJ5_charAt_5068e 39 = .ok (.iand, 1) := by decide +kernel
theorem dJ5_charAt_5068e_40 : decode cJ5_charAt_5068e 40 = .ok (.i2c, 1) := by decide +kernel
theorem dJ5_charAt_5068e_41 : decode cJ5_charAt_5068e 41 = .ok (.ireturn, 1) := by decide +kernel
theorem dJ5_charAt_5068e_42 : decode cJ5_charAt_5068e 42 = .ok (.aload_n 3, 1) := by decide +kernel
theorem dJ5_charAt_5068e_43 : decode cJ5_charAt_5068e 43 = .ok (.iload_n 1, 1) := by decide +kernel
theorem dJ5_charAt_5068e_44 : decode cJ5_charAt_5068e 44 = .ok (.invokestatic 148, 3) := by decide +kernel
theorem dJ5_charAt_5068e_47 : decode cJ5_charAt_5068e 47 = .ok (.ireturn, 1) := by decide +kernel
theorem dJ4_charAt_5068e_0 : decode cJ4_charAt_5068e 0 = .ok (.aload_n 0, 1) := by decide +kernel
theorem dJ4_charAt_5068e_1 : decode cJ4_charAt_5068e 1 = .ok (.iload_n 1, 1) := by decide +kernel
theorem dJ4_charAt_5068e_2 : decode cJ4_charAt_5068e 2 = .ok (.invokespecial 329, 3) := by decide +kernel
theorem dJ4_charAt_5068e_5 : decode cJ4_charAt_5068e 5 = .ok (.ireturn, 1) := by decide +kernel
theorem dJ4_length_8abf5_0 : decode cJ4_length_8abf5 0 = .ok (.aload_n 0, 1) := by decide +kernel
theorem dJ4_length_8abf5_1 : decode cJ4_length_8abf5 1 = .ok (.invokespecial 343, 3) := by decide +kernel
theorem dJ4_length_8abf5_4 : decode cJ4_length_8abf5 4 = .ok (.ireturn, 1) := by decide +kernel
def EJ5_length_8abf5 : List (Nat × Nat) := []
def EJ4_length_8abf5 : List (Nat × Nat) := []
def EJ5_charAt_5068e : List (Nat × Nat) := []
def EJ4_charAt_5068e : List (Nat × Nat) := []
set_option maxHeartbeats 4000000 in
set_option maxRecDepth 20000 in
theorem uJ5_length_8abf5 (l : Launch) (dC : Nat → ClassId) (dI : Nat → Nat → Nat) (ca : Nat → ClassId) (base : Nat) (B : jF) (hB : jBok B) (hAp : jAp (dC, dI)) (hB0 : ∀ n G a H, B 0 n G a H ↔ jOb (dC, dI) 0 4 (Fz0 n G) a H) (G0 : jT) (H0 : Heap) (r0 : Nat) (pc : Int32) : Met l yJ5_length_8abf5 (jw yJ5_length_8abf5 cJ5_length_8abf5 1 (some .int)) ({ frames := 0, cells := 0, slots := 0, locals := 0 }) (va_Pc [.ref r0] (fun U => U.heap = H0 ∧ jX B base G0 [] H0 ∧ jG dC dI ca base U ∧ G0 r0 = some (0, 0) ∧ jP (dC, dI) G0 H0 [(r0, 0, 3, .int pc)] ∧ True)) (va_Qi (S := Unit) (fun r u => (r.toInt = pc.toInt)) (fun u t => jRt (dC, dI) B base G0 EJ5_length_8abf5 H0 [] t.heap) (jA base)) 0 0 (jA base) := by
  refine Met.ofW (cc := cJ5_length_8abf5) (maxL := 1) (ret := (some .int)) (by decide) rfl ?_
  intro p e s m args below meth c s₁ Bd hml hv
  obtain ⟨rfl, hH0, hX, hG, hg_r0, hP0, hp0⟩ := hv
  have hK := hG.1
  have hx := Bd.exec
  have hb := Bd.bytes
  have hr := Bd.returns
  have hts := atoms_spec (ws := (jw yJ5_length_8abf5 cJ5_length_8abf5 1 (some .int))) Bd.pre
  have htw : ∀ w ∈ jWl, w.before _ s = true := fun w h => hts w (List.mem_cons_of_mem _ h)
  have hown : s.vm.findClass RJ5 = some m.cls := findClass_of_methodNamed Bd.named
  have hlocks := Bd.notSynchronized
  obtain ⟨Q, hQ⟩ : ∃ Q, Q = MQ below (va_Qi (S := Unit) (fun r u => (r.toInt = pc.toInt)) (fun u t => jRt (dC, dI) B base G0 EJ5_length_8abf5 H0 [] t.heap) (jA base)) ([.ref r0] : List Value).toArray s 0 0 (jA base) := ⟨_, rfl⟩
  rw [← hQ]
  have hl := lv_entry ([.ref r0]) (n := 1) (Nat.le_of_ble_eq_true rfl)
  rw [lg_entry_eq]
  generalize (lg_sl ([.ref r0]) ++ List.replicate (1 - (lg_sl ([.ref r0])).length) Slot.unset).toArray = ls at hl ⊢
  have hl : lv_has ls 1 [(0, .ref r0)] := hl
  generalize hR : (headSpec (jw yJ5_length_8abf5 cJ5_length_8abf5 1 (some .int)) ({ frames := 0, cells := 0, slots := 0, locals := 0 })).room = R
  subst hH0
  have hh : jSt (dC, dI) B base G0 G0 EJ5_length_8abf5 s.heap 0 0 [(r0, 0, 3, .int pc)] [] [] s.heap [] := jSt.start hX hP0 jMc.nil jIs.nil
  clear hX hP0
  have hk0 : (0 : Int32).toInt = 0 := by decide
  have hk1 : (1 : Int32).toInt = 1 := by decide
  have hly_0_3 := htw (u_lay RJ4 TJ4 3) (jWc_wsJ40 _ (u_in_lay (by decide)))
  have hlk_79 := (htw (.fieldLink RJ5 79 "java/lang/AbstractStringBuilder" "count" "I") (jWr_45 _ (List.mem_of_getElem? (i := 9) rfl)))
  refine lv_aload_n hx hb dJ5_length_8abf5_0 rfl (lv_at hl 0 rfl) ?_
  refine j7_read hx hb hown hK (C := RJ4) (T := TJ4) (N := 4) rfl hly_0_3 hlk_79 (hh.at 0 rfl) dJ5_length_8abf5_1 ?_
  rw [hQ]
  exact W.iret (v := pc) hx hb hr (fun t ht hW => ⟨⟨pc, (), rfl, by first | omega | rfl | assumption | decide | exact Or.inl rfl | exact Or.inr rfl | (simp only; omega), hh.rt (M1 := []) [] rfl ht⟩, by rw [ht]; try exact hh.1.1, fun q h9 hq => by rw [ht]; try exact hh.1.2.1 q h9 hq⟩) hh.1.2.2 dJ5_length_8abf5_4
set_option maxHeartbeats 4000000 in
set_option maxRecDepth 20000 in
theorem uJ4_length_8abf5 (l : Launch) (dC : Nat → ClassId) (dI : Nat → Nat → Nat) (ca : Nat → ClassId) (base : Nat) (B : jF) (hB : jBok B) (hAp : jAp (dC, dI)) (hB0 : ∀ n G a H, B 0 n G a H ↔ jOb (dC, dI) 0 4 (Fz0 n G) a H) (G0 : jT) (H0 : Heap) (r0 : Nat) (pc : Int32) : Met l yJ4_length_8abf5 (jw yJ4_length_8abf5 cJ4_length_8abf5 1 (some .int)) ({ frames := 1, cells := 0, slots := 0, locals := 20 }) (va_Pc [.ref r0] (fun U => U.heap = H0 ∧ jX B base G0 [] H0 ∧ jG dC dI ca base U ∧ G0 r0 = some (0, 0) ∧ jP (dC, dI) G0 H0 [(r0, 0, 3, .int pc)] ∧ True)) (va_Qi (S := Unit) (fun r u => (r.toInt = pc.toInt)) (fun u t => jRt (dC, dI) B base G0 EJ4_length_8abf5 H0 [] t.heap) (jA base)) 0 0 (jA base) := by
  refine Met.ofW (cc := cJ4_length_8abf5) (maxL := 1) (ret := (some .int)) (by decide) rfl ?_
  intro p e s m args below meth c s₁ Bd hml hv
  obtain ⟨rfl, hH0, hX, hG, hg_r0, hP0, hp0⟩ := hv
  have hK := hG.1
  have hx := Bd.exec
  have hb := Bd.bytes
  have hr := Bd.returns
  have hts := atoms_spec (ws := (jw yJ4_length_8abf5 cJ4_length_8abf5 1 (some .int))) Bd.pre
  have htw : ∀ w ∈ jWl, w.before _ s = true := fun w h => hts w (List.mem_cons_of_mem _ h)
  have hown : s.vm.findClass RJ4 = some m.cls := findClass_of_methodNamed Bd.named
  have hlocks := Bd.notSynchronized
  obtain ⟨Q, hQ⟩ : ∃ Q, Q = MQ below (va_Qi (S := Unit) (fun r u => (r.toInt = pc.toInt)) (fun u t => jRt (dC, dI) B base G0 EJ4_length_8abf5 H0 [] t.heap) (jA base)) ([.ref r0] : List Value).toArray s 0 0 (jA base) := ⟨_, rfl⟩
  rw [← hQ]
  have hl := lv_entry ([.ref r0]) (n := 1) (Nat.le_of_ble_eq_true rfl)
  rw [lg_entry_eq]
  generalize (lg_sl ([.ref r0]) ++ List.replicate (1 - (lg_sl ([.ref r0])).length) Slot.unset).toArray = ls at hl ⊢
  have hl : lv_has ls 1 [(0, .ref r0)] := hl
  generalize hR : (headSpec (jw yJ4_length_8abf5 cJ4_length_8abf5 1 (some .int)) ({ frames := 1, cells := 0, slots := 0, locals := 20 })).room = R
  subst hH0
  have hh : jSt (dC, dI) B base G0 G0 EJ4_length_8abf5 s.heap 0 0 [(r0, 0, 3, .int pc)] [] [] s.heap [] := jSt.start hX hP0 jMc.nil jIs.nil
  clear hX hP0
  have hk0 : (0 : Int32).toInt = 0 := by decide
  have hk1 : (1 : Int32).toInt = 1 := by decide
  refine lv_aload_n hx hb dJ4_length_8abf5_0 rfl (lv_at hl 0 rfl) ?_
  refine va_calli (A0 := jA base) (H0 := s.heap) (va_runSU (hK.1 0 _ rfl).2 (As := []) (rest := []) ⟨hx, hb, hml, hown, hts⟩ (uJ5_length_8abf5 l dC dI ca base B hB hAp hB0 G0 s.heap r0 pc) (va_cwSU 0 hts (jgU (jWr_48 _ (List.mem_of_getElem? (i := 21) rfl)) (jWr_48 _ (List.mem_of_getElem? (i := 22) rfl)) (jWr_45 _ (List.mem_of_getElem? (i := 6) rfl)) (jWr_48 _ (List.mem_of_getElem? (i := 23) rfl)) (jWr_13 _ (List.mem_of_getElem? (i := 7) rfl)) (jWr_49 _ (List.mem_of_getElem? (i := 0) rfl))) rfl rfl rfl (by decide +kernel) ⟨by rw [← hR]; exact Nat.le_of_ble_eq_true rfl, by rw [← hR]; exact Nat.le_of_ble_eq_true rfl⟩) ⟨fun a U g mk q => by obtain ⟨q0, q1, q2, qK, q10, q11, q12⟩ := q; exact ⟨q0, q1, q2, jG.calling g mk a qK, q10, q11, q12⟩, hh.recv (C := RJ4) (T := TJ4) (N := 4) hB0 rfl (by decide) hg_r0 hK, fun U hU hW => ⟨rfl, hU, hh.2.1, hG.step hW hU hh.1, hg_r0, (hh.2.2.1.sub (L1 := [(r0, 0, 3, .int pc)]) [0] rfl), trivial⟩⟩ rfl rfl hl.1 rfl (lv_room (Nat.le_of_ble_eq_true rfl)) dJ4_length_8abf5_1 ⟨Nat.zero_le _, Nat.zero_le _⟩) hh.1 (fun q _ h => h) (fun q h => h) (fun r_2 u_1 t_1 H_1 locs_1 ht_1 hvm_1 hr_2 hb_1 hz_1 hk_1 hS_1 => ?_)
  rw [ht_1] at hb_1
  obtain ⟨hb_11, hb_12, hb_13, hb_14, hb_15⟩ := hb_1
  have hh_1 : jSt (dC, dI) B base G0 G0 EJ4_length_8abf5 s.heap 0 0 [(r0, 0, 3, .int pc)] [] [] H_1 locs_1 := ((hh.call hb_11 hb_12 hb_13 hb_14 hS_1 rfl (L1 := [(r0, 0, 3, .int pc)]) [0] rfl rfl (M1 := []) [] rfl rfl (I1 := []) [] rfl rfl).more hb_15)
  clear hh ht_1 hvm_1 hz_1 hk_1 hS_1 hb_11 hb_12 hb_13 hb_14 hb_15
  rw [hQ]
  exact W.iret (v := r_2) hx hb hr (fun t ht hW => ⟨⟨r_2, (), rfl, by first | omega | rfl | assumption | decide | exact Or.inl rfl | exact Or.inr rfl | (simp only; omega), hh_1.rt (M1 := []) [] rfl ht⟩, by rw [ht]; try exact hh_1.1.1, fun q h9 hq => by rw [ht]; try exact hh_1.1.2.1 q h9 hq⟩) hh_1.1.2.2 dJ4_length_8abf5_4
set_option maxHeartbeats 4000000 in
set_option maxRecDepth 20000 in
theorem uJ5_charAt_5068e (l : Launch) (dC : Nat → ClassId) (dI : Nat → Nat → Nat) (ca : Nat → ClassId) (base : Nat) (B : jF) (hB : jBok B) (hAp : jAp (dC, dI)) (hB0 : ∀ n G a H, B 0 n G a H ↔ jOb (dC, dI) 0 4 (Fz0 n G) a H) (hB196 : ∀ n G a H, B 196 n G a H ↔ jAr (dC, dI) (ca 0) (fun j z => jBf j z) n a H) (G0 : jT) (H0 : Heap) (r0 : Nat) (a1 : Int32) (pc : Int32) (pa : Nat) (n_pa : Nat) (fv : Nat → Int32) : Met l yJ5_charAt_5068e (jw yJ5_charAt_5068e cJ5_charAt_5068e 5 (some .char)) ({ frames := 2, cells := 0, slots := 0, locals := 61 }) (va_Pc [.ref r0, .int a1] (fun U => U.heap = H0 ∧ jX B base G0 [] H0 ∧ jG dC dI ca base U ∧ G0 r0 = some (0, 0) ∧ G0 pa = some (196, n_pa) ∧ jP (dC, dI) G0 H0 [(r0, 0, 3, .int pc), (r0, 0, 0, .ref pa)] ∧ jMc (dC, dI) G0 H0 [(pa, 196, n_pa, ca 0, fv)] ∧ 0 ≤ a1.toInt ∧ a1.toInt < pc.toInt ∧ pc.toInt ≤ n_pa ∧ n_pa ≤ 1000)) (va_Qi (S := Unit) (fun r u => (0 ≤ r.toInt ∧ r.toInt ≤ 255 ∧ r.toInt = (jCv (fv (a1.toInt).toNat)).toInt)) (fun u t => jRt (dC, dI) B base G0 EJ5_charAt_5068e H0 [] t.heap) (jA base)) 0 0 (jA base) := by
  refine Met.ofW (cc := cJ5_charAt_5068e) (maxL := 5) (ret := (some .char)) (by decide) rfl ?_
  intro p e s m args below meth c s₁ Bd hml hv
  obtain ⟨rfl, hH0, hX, hG, hg_r0, hg_pa, hP0, hM0, hp0, hp1, hp2, hp3⟩ := hv
  have hK := hG.1
  have hx := Bd.exec
  have hb := Bd.bytes
  have hr := Bd.returns
  have hts := atoms_spec (ws := (jw yJ5_charAt_5068e cJ5_charAt_5068e 5 (some .char))) Bd.pre
  have htw : ∀ w ∈ jWl, w.before _ s = true := fun w h => hts w (List.mem_cons_of_mem _ h)
  have hown : s.vm.findClass RJ5 = some m.cls := findClass_of_methodNamed Bd.named
  have hlocks := Bd.notSynchronized
  obtain ⟨Q, hQ⟩ : ∃ Q, Q = MQ below (va_Qi (S := Unit) (fun r u => (0 ≤ r.toInt ∧ r.toInt ≤ 255 ∧ r.toInt = (jCv (fv (a1.toInt).toNat)).toInt)) (fun u t => jRt (dC, dI) B base G0 EJ5_charAt_5068e H0 [] t.heap) (jA base)) ([.ref r0, .int a1] : List Value).toArray s 0 0 (jA base) := ⟨_, rfl⟩
  rw [← hQ]
  have hl := lv_entry ([.ref r0, .int a1]) (n := 5) (Nat.le_of_ble_eq_true rfl)
  rw [lg_entry_eq]
  generalize (lg_sl ([.ref r0, .int a1]) ++ List.replicate (5 - (lg_sl ([.ref r0, .int a1])).length) Slot.unset).toArray = ls at hl ⊢
  have hl : lv_has ls 5 [(0, .ref r0), (1, .int a1)] := hl
  generalize hR : (headSpec (jw yJ5_charAt_5068e cJ5_charAt_5068e 5 (some .char)) ({ frames := 2, cells := 0, slots := 0, locals := 61 })).room = R
  subst hH0
  have hh : jSt (dC, dI) B base G0 G0 EJ5_charAt_5068e s.heap 0 0 [(r0, 0, 3, .int pc), (r0, 0, 0, .ref pa)] [(pa, 196, n_pa, ca 0, fv)] [] s.heap [] := jSt.start hX hP0 hM0 jIs.nil
  clear hX hP0
  have hk0 : (0 : Int32).toInt = 0 := by decide
  have hk1 : (1 : Int32).toInt = 1 := by decide
  have hk255 : (255 : Int32).toInt = 255 := by decide
  have hly_0_0 := htw (u_lay RJ4 TJ4 0) (jWc_wsJ40 _ (u_in_lay (by decide)))
  have hly_0_1 := htw (u_lay RJ4 TJ4 1) (jWc_wsJ40 _ (u_in_lay (by decide)))
  have hly_0_3 := htw (u_lay RJ4 TJ4 3) (jWc_wsJ40 _ (u_in_lay (by decide)))
  have hlk_22 := (htw (.fieldLink RJ5 22 "java/lang/AbstractStringBuilder" "coder" "B") (jWr_13 _ (List.mem_of_getElem? (i := 12) rfl)))
  have hlk_15 := (htw (.fieldLink RJ5 15 "java/lang/AbstractStringBuilder" "value" "[B") (jWr_13 _ (List.mem_of_getElem? (i := 11) rfl)))
  have hlk_79 := (htw (.fieldLink RJ5 79 "java/lang/AbstractStringBuilder" "count" "I") (jWr_45 _ (List.mem_of_getElem? (i := 9) rfl)))
  have hrg_a1 := jb_rng a1
  refine lv_aload_n hx hb dJ5_charAt_5068e_0 rfl (lv_at hl 0 rfl) ?_
  obtain ⟨v_1, hv_1, hh_2⟩ := hh.pin (C := RJ4) (T := TJ4) (N := 4) hB0 rfl (by decide) hg_r0 (i := 1) (by decide) rfl
  clear hh
  obtain ⟨coder_3, rfl, hlocoder_3, hhicoder_3⟩ := hv_1
  obtain rfl : coder_3 = 0 := Int32.toInt_inj.mp (by rw [show (0 : Int32).toInt = 0 by decide]; omega)
  refine j7_read hx hb hown hK (C := RJ4) (T := TJ4) (N := 4) rfl hly_0_1 hlk_22 (hh_2.at 0 rfl) dJ5_charAt_5068e_1 ?_
  refine lv_istore_n (lv' := [(2, .int 0), (0, .ref r0), (1, .int a1)]) hx hb dJ5_charAt_5068e_4 rfl hl (by decide) rfl (fun ls hl => ?_)
  refine lv_aload_n hx hb dJ5_charAt_5068e_5 rfl (lv_at hl 1 rfl) ?_
  refine j7_read hx hb hown hK (C := RJ4) (T := TJ4) (N := 4) rfl hly_0_0 hlk_15 (hh_2.at 2 rfl) dJ5_charAt_5068e_6 ?_
  refine lv_astore_n (lv' := [(3, .ref pa), (2, .int 0), (0, .ref r0), (1, .int a1)]) hx hb dJ5_charAt_5068e_9 rfl hl (by decide) rfl (fun ls hl => ?_)
  refine lv_aload_n hx hb dJ5_charAt_5068e_10 rfl (lv_at hl 2 rfl) ?_
  refine j7_read hx hb hown hK (C := RJ4) (T := TJ4) (N := 4) rfl hly_0_3 hlk_79 (hh_2.at 1 rfl) dJ5_charAt_5068e_11 ?_
  refine lv_aload_n hx hb dJ5_charAt_5068e_14 rfl (lv_at hl 0 rfl) ?_
  refine j7_len hx hb hK hh_2 hB196 0 rfl (by decide) hg_pa (by omega) dJ5_charAt_5068e_15 (fun z_4 hz_4 => ?_)
  refine lv_iload_n hx hb dJ5_charAt_5068e_16 rfl (lv_at hl 1 rfl) ?_
  refine lv_ishr hx hb dJ5_charAt_5068e_17 ?_
  refine lv_topi (fun z_5 ez_5 => ?_)
  have hz_5 : z_5.toInt = z_4.toInt / 2 ^ 0 := by rw [ez_5]; exact jb_ishr 0 (rfl) (by decide)
  refine va_mmin hx hb (by rw [hml]; exact hl.1.symm) hown (htw (.methodLink RJ5 138 Lib.Math.min.name) (jWr_49 _ (List.mem_of_getElem? (i := 10) rfl))) (htw (.static Lib.Math.min.name) (jWr_16 _ (List.mem_of_getElem? (i := 16) rfl))) (htw (.initialized "java/lang/Math") (jWr_3 _ (List.mem_of_getElem? (i := 7) rfl))) (htw (.code Lib.Math.min.name Lib.Math.min.code 2 (some .int)) (jWr_16 _ (List.mem_of_getElem? (i := 17) rfl))) (by rw [← hR]; exact Nat.le_of_ble_eq_true rfl) (by rw [← hR]; exact Nat.le_of_ble_eq_true rfl) (Nat.zero_le _) (Nat.zero_le _) dJ5_charAt_5068e_18 ?_
  refine lv_topi (fun z_6 ez_6 => ?_)
  have hz_6 := jb_min ez_6
  refine lv_istore (lv' := [(4, .int z_6), (3, .ref pa), (2, .int 0), (0, .ref r0), (1, .int a1)]) hx hb dJ5_charAt_5068e_21 hl (by decide) rfl (fun ls hl => ?_)
  refine lv_iload_n hx hb dJ5_charAt_5068e_23 rfl (lv_at hl 4 rfl) ?_
  refine lv_iload hx hb dJ5_charAt_5068e_24 (lv_at hl 0 rfl) ?_
  refine va_csv (W.runS (As := [.int a1, .int z_6]) (rest := []) ⟨hx, hb, hml, hown, hts⟩ (wJ0_checkIndex_df160 l dC dI ca base s.heap a1 z_6) (va_cwS 2 hts (jgS (jWr_49 _ (List.mem_of_getElem? (i := 11) rfl)) (jWr_6 _ (List.mem_of_getElem? (i := 13) rfl)) (jWr_5 _ (List.mem_of_getElem? (i := 15) rfl)) (jWr_6 _ (List.mem_of_getElem? (i := 14) rfl))) rfl rfl rfl (by decide +kernel) ⟨by rw [← hR]; exact Nat.le_of_ble_eq_true rfl, by rw [← hR]; exact Nat.le_of_ble_eq_true rfl⟩) ⟨fun a U g mk q => by obtain ⟨q0, q1, qK, q9⟩ := q; exact ⟨q0, q1, jG.calling g mk a qK, q9⟩, fun U hU hW => ⟨rfl, hU, hG.step hW hU hh_2.1, by first | trivial | omega | (constructor <;> omega)⟩⟩ rfl rfl hl.1 rfl (lv_room (Nat.le_of_ble_eq_true rfl)) dJ5_charAt_5068e_26 ⟨Nat.zero_le _, Nat.zero_le _⟩) (fun _ => ?_)
  refine lv_iload_n hx hb dJ5_charAt_5068e_29 rfl (lv_at hl 2 rfl) ?_
  refine lv_if_ne (tgt := 42) hx hb dJ5_charAt_5068e_30 (by decide) (fun c_8 => ?_) (fun c_8 => ?_)
  · skip
    exact absurd c_8 (by decide)
  · skip
    refine lv_aload_n hx hb dJ5_charAt_5068e_33 rfl (lv_at hl 1 rfl) ?_
    refine lv_iload_n hx hb dJ5_charAt_5068e_34 rfl (lv_at hl 4 rfl) ?_
    refine j7_baldM hx hb hK hh_2 hB196 0 rfl (by decide) hg_pa (x := a1.toInt) (rfl) (by omega) (j := 0) rfl dJ5_charAt_5068e_35 (fun z_9 ez_9 (hz_9 : jBf (a1.toInt).toNat z_9) => ?_)
    have hqz_9 : z_9.toInt = jSo fv (a1.toInt) := by unfold jSo; rw [ez_9]
    refine lv_sipush (v := 255) hx hb dJ5_charAt_5068e_36 (by decide) ?_
    refine lv_iand hx hb dJ5_charAt_5068e_39 ?_
    refine lv_topi (fun z_10 ez_10 => ?_)
    have hz_10 : 0 ≤ z_10.toInt ∧ z_10.toInt ≤ 255 := by rw [ez_10]; exact jb_and z_9 (m := 255) (k := 8) (by decide) (by decide)
    refine lv_i2c hx hb dJ5_charAt_5068e_40 rfl ?_
    refine lv_topi (fun z_11 ez_11 => ?_)
    rw [hQ]
    exact W.zret (v := z_11) hx hb hr (by rw [ez_11]; exact pk_nc _) (fun t ht hW => ⟨⟨z_11, (), rfl, by have h9 : z_11 = jCv (fv a1.toInt.toNat) := (by have h8 := hqz_9; unfold jSo at h8; rw [ez_11, ez_10, Int32.toInt_inj.mp h8]; rfl); rw [h9]; exact ⟨(jb_char _).1, (jb_char _).2, rfl⟩, hh_2.rt (M1 := []) [] rfl ht⟩, by rw [ht]; try exact hh_2.1.1, fun q h9 hq => by rw [ht]; try exact hh_2.1.2.1 q h9 hq⟩) hh_2.1.2.2 dJ5_charAt_5068e_41
set_option maxHeartbeats 4000000 in
set_option maxRecDepth 20000 in
theorem uJ4_charAt_5068e (l : Launch) (dC : Nat → ClassId) (dI : Nat → Nat → Nat) (ca : Nat → ClassId) (base : Nat) (B : jF) (hB : jBok B) (hAp : jAp (dC, dI)) (hB0 : ∀ n G a H, B 0 n G a H ↔ jOb (dC, dI) 0 4 (Fz0 n G) a H) (hB196 : ∀ n G a H, B 196 n G a H ↔ jAr (dC, dI) (ca 0) (fun j z => jBf j z) n a H) (G0 : jT) (H0 : Heap) (r0 : Nat) (a1 : Int32) (pc : Int32) (pa : Nat) (n_pa : Nat) (fv : Nat → Int32) : Met l yJ4_charAt_5068e (jw yJ4_charAt_5068e cJ4_charAt_5068e 2 (some .char)) ({ frames := 3, cells := 0, slots := 0, locals := 85 }) (va_Pc [.ref r0, .int a1] (fun U => U.heap = H0 ∧ jX B base G0 [] H0 ∧ jG dC dI ca base U ∧ G0 r0 = some (0, 0) ∧ G0 pa = some (196, n_pa) ∧ jP (dC, dI) G0 H0 [(r0, 0, 3, .int pc), (r0, 0, 0, .ref pa)] ∧ jMc (dC, dI) G0 H0 [(pa, 196, n_pa, ca 0, fv)] ∧ 0 ≤ a1.toInt ∧ a1.toInt < pc.toInt ∧ pc.toInt ≤ n_pa ∧ n_pa ≤ 1000)) (va_Qi (S := Unit) (fun r u => (0 ≤ r.toInt ∧ r.toInt ≤ 255 ∧ r.toInt = (jCv (fv (a1.toInt).toNat)).toInt)) (fun u t => jRt (dC, dI) B base G0 EJ4_charAt_5068e H0 [] t.heap) (jA base)) 0 0 (jA base) := by
  refine Met.ofW (cc := cJ4_charAt_5068e) (maxL := 2) (ret := (some .char)) (by decide) rfl ?_
  intro p e s m args below meth c s₁ Bd hml hv
  obtain ⟨rfl, hH0, hX, hG, hg_r0, hg_pa, hP0, hM0, hp0, hp1, hp2, hp3⟩ := hv
  have hK := hG.1
  have hx := Bd.exec
  have hb := Bd.bytes
  have hr := Bd.returns
  have hts := atoms_spec (ws := (jw yJ4_charAt_5068e cJ4_charAt_5068e 2 (some .char))) Bd.pre
  have htw : ∀ w ∈ jWl, w.before _ s = true := fun w h => hts w (List.mem_cons_of_mem _ h)
  have hown : s.vm.findClass RJ4 = some m.cls := findClass_of_methodNamed Bd.named
  have hlocks := Bd.notSynchronized
  obtain ⟨Q, hQ⟩ : ∃ Q, Q = MQ below (va_Qi (S := Unit) (fun r u => (0 ≤ r.toInt ∧ r.toInt ≤ 255 ∧ r.toInt = (jCv (fv (a1.toInt).toNat)).toInt)) (fun u t => jRt (dC, dI) B base G0 EJ4_charAt_5068e H0 [] t.heap) (jA base)) ([.ref r0, .int a1] : List Value).toArray s 0 0 (jA base) := ⟨_, rfl⟩
  rw [← hQ]
  have hl := lv_entry ([.ref r0, .int a1]) (n := 2) (Nat.le_of_ble_eq_true rfl)
  rw [lg_entry_eq]
  generalize (lg_sl ([.ref r0, .int a1]) ++ List.replicate (2 - (lg_sl ([.ref r0, .int a1])).length) Slot.unset).toArray = ls at hl ⊢
  have hl : lv_has ls 2 [(0, .ref r0), (1, .int a1)] := hl
  generalize hR : (headSpec (jw yJ4_charAt_5068e cJ4_charAt_5068e 2 (some .char)) ({ frames := 3, cells := 0, slots := 0, locals := 85 })).room = R
  subst hH0
  have hh : jSt (dC, dI) B base G0 G0 EJ4_charAt_5068e s.heap 0 0 [(r0, 0, 3, .int pc), (r0, 0, 0, .ref pa)] [(pa, 196, n_pa, ca 0, fv)] [] s.heap [] := jSt.start hX hP0 hM0 jIs.nil
  clear hX hP0
  have hk0 : (0 : Int32).toInt = 0 := by decide
  have hk1 : (1 : Int32).toInt = 1 := by decide
  have hrg_a1 := jb_rng a1
  refine lv_aload_n hx hb dJ4_charAt_5068e_0 rfl (lv_at hl 0 rfl) ?_
  refine lv_iload_n hx hb dJ4_charAt_5068e_1 rfl (lv_at hl 1 rfl) ?_
  refine va_calli (A0 := jA base) (H0 := s.heap) (va_runSU (hK.1 0 _ rfl).2 (As := [.int a1]) (rest := []) ⟨hx, hb, hml, hown, hts⟩ (uJ5_charAt_5068e l dC dI ca base B hB hAp hB0 hB196 G0 s.heap r0 a1 pc pa n_pa fv) (va_cwSU 1 hts (jgU (jWr_49 _ (List.mem_of_getElem? (i := 6) rfl)) (jWr_49 _ (List.mem_of_getElem? (i := 7) rfl)) (jWr_45 _ (List.mem_of_getElem? (i := 6) rfl)) (jWr_49 _ (List.mem_of_getElem? (i := 8) rfl)) (jWr_13 _ (List.mem_of_getElem? (i := 7) rfl)) (jWr_49 _ (List.mem_of_getElem? (i := 9) rfl))) rfl rfl rfl (by decide +kernel) ⟨by rw [← hR]; exact Nat.le_of_ble_eq_true rfl, by rw [← hR]; exact Nat.le_of_ble_eq_true rfl⟩) ⟨fun a U g mk q => by obtain ⟨q0, q1, q2, qK, q10, q11, q12, q13, q14⟩ := q; exact ⟨q0, q1, q2, jG.calling g mk a qK, q10, q11, q12, q13, q14⟩, hh.recv (C := RJ4) (T := TJ4) (N := 4) hB0 rfl (by decide) hg_r0 hK, fun U hU hW => ⟨rfl, hU, hh.2.1, hG.step hW hU hh.1, hg_r0, hg_pa, (hh.2.2.1.sub (L1 := [(r0, 0, 3, .int pc), (r0, 0, 0, .ref pa)]) [0, 1] rfl), (hh.2.2.2.2.2.2.2.1.sub (L1 := [(pa, 196, n_pa, ca 0, fv)]) [0] rfl), by first | omega | (refine ⟨?_, ?_, ?_, ?_⟩ <;> (first | omega | rfl | assumption | decide | exact Or.inl rfl | exact Or.inr rfl | (simp only; omega)))⟩⟩ rfl rfl hl.1 rfl (lv_room (Nat.le_of_ble_eq_true rfl)) dJ4_charAt_5068e_2 ⟨Nat.zero_le _, Nat.zero_le _⟩) hh.1 (fun q _ h => h) (fun q h => h) (fun r_2 u_1 t_1 H_1 locs_1 ht_1 hvm_1 hr_2 hb_1 hz_1 hk_1 hS_1 => ?_)
  rw [ht_1] at hb_1
  obtain ⟨hb_11, hb_12, hb_13, hb_14, hb_15⟩ := hb_1
  have hh_1 : jSt (dC, dI) B base G0 G0 EJ4_charAt_5068e s.heap 0 0 [(r0, 0, 3, .int pc), (r0, 0, 0, .ref pa)] [(pa, 196, n_pa, ca 0, fv)] [] H_1 locs_1 := ((hh.call hb_11 hb_12 hb_13 hb_14 hS_1 rfl (L1 := [(r0, 0, 3, .int pc), (r0, 0, 0, .ref pa)]) [0, 1] rfl rfl (M1 := [(pa, 196, n_pa, ca 0, fv)]) [0] rfl rfl (I1 := []) [] rfl rfl).more hb_15)
  clear hh ht_1 hvm_1 hz_1 hk_1 hS_1 hb_11 hb_12 hb_13 hb_14 hb_15
  obtain ⟨hr_2_0, hr_2_1, hr_2_2⟩ := hr_2
  rw [hQ]
  exact W.zret (v := r_2) hx hb hr (jb_nch (by omega) (by omega)) (fun t ht hW => ⟨⟨r_2, (), rfl, by first | omega | (refine ⟨?_, ?_, ?_⟩ <;> (first | omega | rfl | assumption | decide | exact Or.inl rfl | exact Or.inr rfl | (simp only; omega))), hh_1.rt (M1 := []) [] rfl ht⟩, by rw [ht]; try exact hh_1.1.1, fun q h9 hq => by rw [ht]; try exact hh_1.1.2.1 q h9 hq⟩) hh_1.1.2.2 dJ4_charAt_5068e_5
