section
theorem dX13_printFormula_0 : decode cX13_printFormula 0 = .ok (.aload_n 0, 1) := by decide +kernel
theorem dX13_printFormula_1 : decode cX13_printFormula 1 = .ok (.iconst 0, 1) := by decide +kernel
theorem dX13_printFormula_2 : decode cX13_printFormula 2 = .ok (.putfield 388, 3) := by decide +kernel
theorem dX13_printFormula_5 : decode cX13_printFormula 5 = .ok (.aload_n 0, 1) := by decide +kernel
theorem dX13_printFormula_6 : decode cX13_printFormula 6 = .ok (.iload_n 1, 1) := by decide +kernel
theorem dX13_printFormula_7 : decode cX13_printFormula 7 = .ok (.iconst 1, 1) := by decide +kernel
theorem dX13_printFormula_8 : decode cX13_printFormula 8 = .ok (.invokevirtual 408, 3) := by decide +kernel
theorem dX13_printFormula_11 : decode cX13_printFormula 11 = .ok (.return_, 1) := by decide +kernel
theorem dX13_printGoal_0 : decode cX13_printGoal 0 = .ok (.iconst 0, 1) := by decide +kernel
theorem dX13_printGoal_1 : decode cX13_printGoal 1 = .ok (.istore_n 2, 1) := by decide +kernel
theorem dX13_printGoal_2 : decode cX13_printGoal 2 = .ok (.iload_n 2, 1) := by decide +kernel
theorem dX13_printGoal_3 : decode cX13_printGoal 3 = .ok (.aload_n 0, 1) := by decide +kernel
theorem dX13_printGoal_4 : decode cX13_printGoal 4 = .ok (.getfield 56, 3) := by decide +kernel
theorem dX13_printGoal_7 : decode cX13_printGoal 7 = .ok (.iload_n 1, 1) := by decide +kernel
theorem dX13_printGoal_8 : decode cX13_printGoal 8 = .ok (.iaload, 1) := by decide +kernel
theorem dX13_printGoal_9 : decode cX13_printGoal 9 = .ok (.if_icmp .ge 30, 3) := by decide +kernel
theorem dX13_printGoal_12 : decode cX13_printGoal 12 = .ok (.aload_n 0, 1) := by decide +kernel
theorem dX13_printGoal_13 : decode cX13_printGoal 13 = .ok (.aload_n 0, 1) := by decide +kernel
theorem dX13_printGoal_14 : decode cX13_printGoal 14 = .ok (.getfield 59, 3) := by decide +kernel
theorem dX13_printGoal_17 : decode cX13_printGoal 17 = .ok (.bipush 6, 2) := by decide +kernel
theorem dX13_printGoal_19 : decode cX13_printGoal 19 = .ok (.iload_n 1, 1) := by decide +kernel
theorem dX13_printGoal_20 : decode cX13_printGoal 20 = .ok (.imul, 1) := by decide +kernel
theorem dX13_printGoal_21 : decode cX13_printGoal 21 = .ok (.iload_n 2, 1) := by decide +kernel
theorem dX13_printGoal_22 : decode cX13_printGoal 22 = .ok (.iadd, 1) := by decide +kernel
theorem dX13_printGoal_23 : decode cX13_printGoal 23 = .ok (.iaload, 1) := by decide +kernel
theorem dX13_printGoal_24 : decode cX13_printGoal 24 = .ok (.invokevirtual 381, 3) := by decide +kernel
theorem dX13_printGoal_27 : decode cX13_printGoal 27 = .ok (.aload_n 0, 1) := by decide +kernel
theorem dX13_printGoal_28 : decode cX13_printGoal 28 = .ok (.bipush 32, 2) := by decide +kernel
theorem dX13_printGoal_30 : decode cX13_printGoal 30 = .ok (.invokevirtual 378, 3) := by decide +kernel
theorem dX13_printGoal_33 : decode cX13_printGoal 33 = .ok (.iinc 2 1, 3) := by decide +kernel
theorem dX13_printGoal_36 : decode cX13_printGoal 36 = .ok (.goto (-34), 3) := by decide +kernel
theorem dX13_printGoal_39 : decode cX13_printGoal 39 = .ok (.iconst 0, 1) := by decide +kernel
theorem dX13_printGoal_40 : decode cX13_printGoal 40 = .ok (.istore_n 2, 1) := by decide +kernel
theorem dX13_printGoal_41 : decode cX13_printGoal 41 = .ok (.iload_n 2, 1) := by decide +kernel
theorem dX13_printGoal_42 : decode cX13_printGoal 42 = .ok (.aload_n 0, 1) := by decide +kernel
theorem dX13_printGoal_43 : decode cX13_printGoal 43 = .ok (.getfield 62, 3) := by decide +kernel
theorem dX13_printGoal_46 : decode cX13_printGoal 46 = .ok (.iload_n 1, 1) := by decide +kernel
theorem dX13_printGoal_47 : decode cX13_printGoal 47 = .ok (.iaload, 1) := by decide +kernel
theorem dX13_printGoal_48 : decode cX13_printGoal 48 = .ok (.if_icmp .ge 53, 3) := by decide +kernel
theorem dX13_printGoal_51 : decode cX13_printGoal 51 = .ok (.aload_n 0, 1) := by decide +kernel
theorem dX13_printGoal_52 : decode cX13_printGoal 52 = .ok (.aload_n 0, 1) := by decide +kernel
theorem dX13_printGoal_53 : decode cX13_printGoal 53 = .ok (.getfield 65, 3) := by decide +kernel
theorem dX13_printGoal_56 : decode cX13_printGoal 56 = .ok (.bipush 8, 2) := by decide +kernel
theorem dX13_printGoal_58 : decode cX13_printGoal 58 = .ok (.iload_n 1, 1) := by decide +kernel
theorem dX13_printGoal_59 : decode cX13_printGoal 59 = .ok (.imul, 1) := by decide +kernel
theorem dX13_printGoal_60 : decode cX13_printGoal 60 = .ok (.iload_n 2, 1) := by decide +kernel
theorem dX13_printGoal_61 : decode cX13_printGoal 61 = .ok (.iadd, 1) := by decide +kernel
theorem dX13_printGoal_62 : decode cX13_printGoal 62 = .ok (.iaload, 1) := by decide +kernel
theorem dX13_printGoal_63 : decode cX13_printGoal 63 = .ok (.invokevirtual 381, 3) := by decide +kernel
theorem dX13_printGoal_66 : decode cX13_printGoal 66 = .ok (.aload_n 0, 1) := by decide +kernel
theorem dX13_printGoal_67 : decode cX13_printGoal 67 = .ok (.ldc_w 429, 3) := by decide +kernel
theorem dX13_printGoal_70 : decode cX13_printGoal 70 = .ok (.invokevirtual 400, 3) := by decide +kernel
theorem dX13_printGoal_73 : decode cX13_printGoal 73 = .ok (.aload_n 0, 1) := by decide +kernel
theorem dX13_printGoal_74 : decode cX13_printGoal 74 = .ok (.aload_n 0, 1) := by decide +kernel
theorem dX13_printGoal_75 : decode cX13_printGoal 75 = .ok (.getfield 68, 3) := by decide +kernel
theorem dX13_printGoal_78 : decode cX13_printGoal 78 = .ok (.bipush 8, 2) := by decide +kernel
theorem dX13_printGoal_80 : decode cX13_printGoal 80 = .ok (.iload_n 1, 1) := by decide +kernel
theorem dX13_printGoal_81 : decode cX13_printGoal 81 = .ok (.imul, 1) := by decide +kernel
theorem dX13_printGoal_82 : decode cX13_printGoal 82 = .ok (.iload_n 2, 1) := by decide +kernel
theorem dX13_printGoal_83 : decode cX13_printGoal 83 = .ok (.iadd, 1) := by decide +kernel
theorem dX13_printGoal_84 : decode cX13_printGoal 84 = .ok (.iaload, 1) := by decide +kernel
theorem dX13_printGoal_85 : decode cX13_printGoal 85 = .ok (.invokevirtual 431, 3) := by decide +kernel
theorem dX13_printGoal_88 : decode cX13_printGoal 88 = .ok (.aload_n 0, 1) := by decide +kernel
theorem dX13_printGoal_89 : decode cX13_printGoal 89 = .ok (.ldc_w 427, 3) := by decide +kernel
theorem dX13_printGoal_92 : decode cX13_printGoal 92 = .ok (.invokevirtual 400, 3) := by decide +kernel
theorem dX13_printGoal_95 : decode cX13_printGoal 95 = .ok (.iinc 2 1, 3) := by decide +kernel
theorem dX13_printGoal_98 : decode cX13_printGoal 98 = .ok (.goto (-57), 3) := by decide +kernel
theorem dX13_printGoal_101 : decode cX13_printGoal 101 = .ok (.aload_n 0, 1) := by decide +kernel
theorem dX13_printGoal_102 : decode cX13_printGoal 102 = .ok (.ldc_w 434, 3) := by decide +kernel
theorem dX13_printGoal_105 : decode cX13_printGoal 105 = .ok (.invokevirtual 400, 3) := by decide +kernel
theorem dX13_printGoal_108 : decode cX13_printGoal 108 = .ok (.aload_n 0, 1) := by decide +kernel
theorem dX13_printGoal_109 : decode cX13_printGoal 109 = .ok (.aload_n 0, 1) := by decide +kernel
theorem dX13_printGoal_110 : decode cX13_printGoal 110 = .ok (.getfield 53, 3) := by decide +kernel
theorem dX13_printGoal_113 : decode cX13_printGoal 113 = .ok (.iload_n 1, 1) := by decide +kernel
theorem dX13_printGoal_114 : decode cX13_printGoal 114 = .ok (.iaload, 1) := by decide +kernel
theorem dX13_printGoal_115 : decode cX13_printGoal 115 = .ok (.invokevirtual 431, 3) := by decide +kernel
theorem dX13_printGoal_118 : decode cX13_printGoal 118 = .ok (.return_, 1) := by decide +kernel
def EX13_printFormula : List (Nat × Nat) := [(15, 46), (15, 49), (101, 0), (163, 0), (164, 0)]
def EX13_printGoal : List (Nat × Nat) := [(15, 46), (15, 49), (101, 0), (163, 0), (164, 0)]
set_option maxHeartbeats 4000000 in
set_option maxRecDepth 20000 in
theorem uX13_printFormula (l : Launch) (dC : Nat → ClassId) (dI : Nat → Nat → Nat) (ca : Nat → ClassId) (base : Nat) (B : jF) (hB : jBok B) (hAp : jAp (dC, dI)) (hB15 : ∀ n G a H, B 15 n G a H ↔ jOb (dC, dI) 15 50 (F15 n G) a H) (hB101 : ∀ n G a H, B 101 n G a H ↔ jAr (dC, dI) (ca 1) (fun j z => True) n a H) (hB150 : ∀ n G a H, B 150 n G a H ↔ jAr (dC, dI) (ca 1) (fun j z => True) n a H) (hB151 : ∀ n G a H, B 151 n G a H ↔ jAr (dC, dI) (ca 1) (fun j z => True) n a H) (hB152 : ∀ n G a H, B 152 n G a H ↔ jAr (dC, dI) (ca 1) (fun j z => True) n a H) (hB153 : ∀ n G a H, B 153 n G a H ↔ jAr (dC, dI) (ca 1) (fun j z => True) n a H) (hB154 : ∀ n G a H, B 154 n G a H ↔ jAr (dC, dI) (ca 1) (fun j z => True) n a H) (hB155 : ∀ n G a H, B 155 n G a H ↔ jAr (dC, dI) (ca 1) (fun j z => 0 ≤ z.toInt ∧ z.toInt ≤ 11990) n a H) (hB156 : ∀ n G a H, B 156 n G a H ↔ jAr (dC, dI) (ca 1) (fun j z => 0 ≤ z.toInt ∧ z.toInt ≤ 10) n a H) (hB163 : ∀ n G a H, B 163 n G a H ↔ jAr (dC, dI) (ca 1) (fun j z => 0 ≤ z.toInt ∧ z.toInt ≤ 1599) n a H) (hB164 : ∀ n G a H, B 164 n G a H ↔ jAr (dC, dI) (ca 1) (fun j z => 0 ≤ z.toInt ∧ z.toInt ≤ 100000) n a H) (hB165 : ∀ n G a H, B 165 n G a H ↔ jAr (dC, dI) (ca 1) (fun j z => 0 ≤ z.toInt ∧ z.toInt ≤ 3) n a H) (hB166 : ∀ n G a H, B 166 n G a H ↔ jAr (dC, dI) (ca 1) (fun j z => True) n a H) (G0 : jT) (H0 : Heap) (r0 : Nat) (a1 : Int32) (zs : Nat) (zn : Nat) (za : Nat) (zb : Nat) (zc : Nat) (zy : Nat) (C : jK) : Met l yX13_printFormula (jw yX13_printFormula cX13_printFormula 2 none) ({ frames := 251, cells := 0, slots := 0, locals := 8223 }) (va_Pc [.ref r0, .int a1] (fun U => U.heap = H0 ∧ jX B base G0 [] H0 ∧ jG dC dI ca base U ∧ G0 r0 = some (15, 0) ∧ G0 zs = some (150, 120000) ∧ G0 zn = some (151, 120000) ∧ G0 za = some (152, 120000) ∧ G0 zb = some (153, 120000) ∧ G0 zc = some (154, 120000) ∧ G0 zy = some (165, 16) ∧ jP (dC, dI) G0 H0 [(r0, 15, 0, .ref zs), (r0, 15, 1, .ref zn), (r0, 15, 2, .ref za), (r0, 15, 3, .ref zb), (r0, 15, 4, .ref zc), (r0, 15, 14, .ref zy)] ∧ jMc (dC, dI) G0 H0 [(zs, 150, 120000, ca 1, C.s), (zn, 151, 120000, ca 1, C.n), (za, 152, 120000, ca 1, C.a), (zb, 153, 120000, ca 1, C.b), (zc, 154, 120000, ca 1, C.c), (zy, 165, 16, ca 1, C.y)] ∧ jFm C 120000 16 80 0 a1.toInt)) (va_Qv (S := Unit) (fun u => True) (fun u t => jRt (dC, dI) B base G0 EX13_printFormula H0 [] t.heap) (jA base)) 0 0 (jA base) := by
  refine Met.ofW (cc := cX13_printFormula) (maxL := 2) (ret := none) (by decide) rfl ?_
  intro p e s m args below meth c s₁ Bd hml hv
  obtain ⟨rfl, hH0, hX, hG, hg_r0, hg_zs, hg_zn, hg_za, hg_zb, hg_zc, hg_zy, hP0, hM0, hp0⟩ := hv
  have hK := hG.1
  have hx := Bd.exec
  have hb := Bd.bytes
  have hr := Bd.returns
  have hts := atoms_spec (ws := (jw yX13_printFormula cX13_printFormula 2 none)) Bd.pre
  have htw : ∀ w ∈ jWl, w.before _ s = true := fun w h => hts w (List.mem_cons_of_mem _ h)
  have hown : s.vm.findClass RX13 = some m.cls := findClass_of_methodNamed Bd.named
  have hlocks := Bd.notSynchronized
  obtain ⟨Q, hQ⟩ : ∃ Q, Q = MQ below (va_Qv (S := Unit) (fun u => True) (fun u t => jRt (dC, dI) B base G0 EX13_printFormula H0 [] t.heap) (jA base)) ([.ref r0, .int a1] : List Value).toArray s 0 0 (jA base) := ⟨_, rfl⟩
  rw [← hQ]
  have hl := lv_entry ([.ref r0, .int a1]) (n := 2) (Nat.le_of_ble_eq_true rfl)
  rw [lg_entry_eq]
  generalize (lg_sl ([.ref r0, .int a1]) ++ List.replicate (2 - (lg_sl ([.ref r0, .int a1])).length) Slot.unset).toArray = ls at hl ⊢
  have hl : lv_has ls 2 [(0, .ref r0), (1, .int a1)] := hl
  generalize hR : (headSpec (jw yX13_printFormula cX13_printFormula 2 none) ({ frames := 251, cells := 0, slots := 0, locals := 8223 })).room = R
  subst hH0
  have hh : jSt (dC, dI) B base G0 G0 EX13_printFormula s.heap 0 0 [(r0, 15, 0, .ref zs), (r0, 15, 1, .ref zn), (r0, 15, 2, .ref za), (r0, 15, 3, .ref zb), (r0, 15, 4, .ref zc), (r0, 15, 14, .ref zy)] [(zs, 150, 120000, ca 1, C.s), (zn, 151, 120000, ca 1, C.n), (za, 152, 120000, ca 1, C.a), (zb, 153, 120000, ca 1, C.b), (zc, 154, 120000, ca 1, C.c), (zy, 165, 16, ca 1, C.y)] [] s.heap [] := jSt.start hX hP0 hM0 jIs.nil
  clear hX hP0
  have hk0 : (0 : Int32).toInt = 0 := by decide
  have hk1 : (1 : Int32).toInt = 1 := by decide
  have hly_15_49 := htw (u_lay RX13 TX13 49) (jWc_wsX130 _ (u_in_lay (by decide)))
  have hlk_388 := (htw (.fieldLink RX13 388 "ProofServerModel$Kernel" "written" "I") (jWr_71 _ (List.mem_of_getElem? (i := 4) rfl)))
  have hrg_a1 := jb_rng a1
  refine lv_aload_n hx hb dX13_printFormula_0 rfl (lv_at hl 0 rfl) ?_
  refine lv_iconst (v := 0) hx hb dX13_printFormula_1 (by decide) ?_
  refine j7_put hx hb hown hK hh hB hAp hB15 (C := RX13) (T := TX13) (N := 50) rfl (by decide) hg_r0 (i := 49) (by decide) hly_15_49 rfl hlk_388 rfl (ty := .int) (v := .int 0) (by decide +kernel) rfl rfl (⟨_, rfl, by omega, by omega⟩) rfl (L1 := [(r0, 15, 0, .ref zs), (r0, 15, 1, .ref zn), (r0, 15, 2, .ref za), (r0, 15, 3, .ref zb), (r0, 15, 4, .ref zc), (r0, 15, 14, .ref zy)]) [0, 1, 2, 3, 4, 5] rfl rfl rfl dX13_printFormula_2 (fun H_1 locs_1 hh_1 => ?_)
  clear hh
  refine lv_aload_n hx hb dX13_printFormula_5 rfl (lv_at hl 0 rfl) ?_
  refine lv_iload_n hx hb dX13_printFormula_6 rfl (lv_at hl 1 rfl) ?_
  refine lv_iconst (v := 1) hx hb dX13_printFormula_7 (by decide) ?_
  obtain ⟨v_4, hv_4, hh_5⟩ := hh_1.pin (C := RX13) (T := TX13) (N := 50) hB15 rfl (by decide) hg_r0 (i := 48) (by decide) rfl
  obtain ⟨writtenMarks_6, rfl, hg_writtenMarks_6⟩ := hv_4
  obtain ⟨f_fm_7, hh_7⟩ := hh_5.cpin hB164 (by decide) (by decide) hg_writtenMarks_6
  clear hh_5
  refine va_callv (A0 := jA base) (H0 := s.heap) (va_runV (As := [.int a1, .int 1]) (rest := []) ⟨hx, hb, hml, hown, hts⟩ ((aX13_print l dC dI ca base B hB hAp hB15 hB101 hB150 hB151 hB152 hB153 hB154 hB155 hB156 hB163 hB164 hB165 hB166 80).1 G0 H_1 r0 a1 1 0 writtenMarks_6 zs zn za zb zc zy 0 f_fm_7 C) (cwV 2 hts (jgV (jWr_71 _ (List.mem_of_getElem? (i := 5) rfl)) (jWr_71 _ (List.mem_of_getElem? (i := 6) rfl)) (jWr_71 _ (List.mem_of_getElem? (i := 7) rfl)) (jWr_12 _ (List.mem_of_getElem? (i := 12) rfl)) (jWr_71 _ (List.mem_of_getElem? (i := 8) rfl))) rfl rfl rfl (by decide +kernel) ⟨by rw [← hR]; exact Nat.le_of_ble_eq_true rfl, by rw [← hR]; exact Nat.le_of_ble_eq_true rfl⟩) ⟨fun a U g mk q => by obtain ⟨q0, q1, q2, qK, q10, q11, q12, q13, q14, q15, q16, q17, q18, q19, q20, q21⟩ := q; exact ⟨q0, q1, q2, jG.calling g mk a qK, q10, q11, q12, q13, q14, q15, q16, q17, q18, q19, q20, q21⟩, hh_7.recv (C := RX13) (T := TX13) (N := 50) hB15 rfl (by decide) hg_r0 hK, fun U hU hW => ⟨rfl, hU, hh_7.2.1, hG.step hW hU hh_7.1, hg_r0, (Or.inr rfl), hg_writtenMarks_6, hg_zs, hg_zn, hg_za, hg_zb, hg_zc, hg_zy, (hh_7.2.2.1.sub (L1 := [(r0, 15, 49, .int 0), (r0, 15, 48, .ref writtenMarks_6), (r0, 15, 0, .ref zs), (r0, 15, 1, .ref zn), (r0, 15, 2, .ref za), (r0, 15, 3, .ref zb), (r0, 15, 4, .ref zc), (r0, 15, 14, .ref zy)]) [1, 0, 2, 3, 4, 5, 6, 7] rfl), (hh_7.2.2.2.2.2.2.2.1.sub (L1 := [(writtenMarks_6, 164, 100, ca 1, f_fm_7), (zs, 150, 120000, ca 1, C.s), (zn, 151, 120000, ca 1, C.n), (za, 152, 120000, ca 1, C.a), (zb, 153, 120000, ca 1, C.b), (zc, 154, 120000, ca 1, C.c), (zy, 165, 16, ca 1, C.y)]) [0, 1, 2, 3, 4, 5, 6] rfl), ⟨(by first | assumption | (rw [hk0]; exact hp0) | exact (fun k q0 q1 => absurd q1 (by omega)) | omega), (by first | assumption | (rw [hk0]; exact hp0) | exact (fun k q0 q1 => absurd q1 (by omega)) | omega), (by first | omega | rfl | assumption | (rw [hk0]; exact hp0) | exact (fun k q0 q1 => absurd q1 (by omega))), (by first | omega | rfl | assumption | (rw [hk0]; exact hp0) | exact (fun k q0 q1 => absurd q1 (by omega))), (by first | omega | rfl | assumption | (rw [hk0]; exact hp0) | exact (fun k q0 q1 => absurd q1 (by omega))), (by first | omega | rfl | assumption | (rw [hk0]; exact hp0) | exact (fun k q0 q1 => absurd q1 (by omega))), (by first | omega | rfl | assumption | (rw [hk0]; exact hp0) | exact (fun k q0 q1 => absurd q1 (by omega)))⟩⟩⟩ rfl rfl hl.1 rfl (lv_room (Nat.le_of_ble_eq_true rfl)) dX13_printFormula_8 ⟨Nat.zero_le _, Nat.zero_le _⟩) hh_7.1 (fun q _ h => h) (fun q h => h) (fun u_2 t_2 H_2 locs_2 ht_2 hvm_2 hr_3 hb_2 hz_2 hk_2 hS_2 => ?_)
  obtain ⟨qv_2, gm_2⟩ := u_2
  rw [ht_2] at hb_2
  obtain ⟨⟨hb_21, hb_22, hb_23, hb_24, hb_25⟩, hb_26⟩ := hb_2
  have hh_2 : jSt (dC, dI) B base G0 G0 EX13_printFormula s.heap 0 0 [(r0, 15, 49, .int qv_2), (r0, 15, 48, .ref writtenMarks_6), (r0, 15, 0, .ref zs), (r0, 15, 1, .ref zn), (r0, 15, 2, .ref za), (r0, 15, 3, .ref zb), (r0, 15, 4, .ref zc), (r0, 15, 14, .ref zy)] [(writtenMarks_6, 164, 100, ca 1, gm_2), (zs, 150, 120000, ca 1, C.s), (zn, 151, 120000, ca 1, C.n), (za, 152, 120000, ca 1, C.a), (zb, 153, 120000, ca 1, C.b), (zc, 154, 120000, ca 1, C.c), (zy, 165, 16, ca 1, C.y)] [] H_2 locs_2 := ((hh_7.call hb_21 hb_22 hb_23 hb_24 hS_2 rfl (L1 := [(r0, 15, 48, .ref writtenMarks_6), (r0, 15, 0, .ref zs), (r0, 15, 1, .ref zn), (r0, 15, 2, .ref za), (r0, 15, 3, .ref zb), (r0, 15, 4, .ref zc), (r0, 15, 14, .ref zy)]) [0, 2, 3, 4, 5, 6, 7] rfl rfl (M1 := [(zs, 150, 120000, ca 1, C.s), (zn, 151, 120000, ca 1, C.n), (za, 152, 120000, ca 1, C.a), (zb, 153, 120000, ca 1, C.b), (zc, 154, 120000, ca 1, C.c), (zy, 165, 16, ca 1, C.y)]) [1, 2, 3, 4, 5, 6] rfl rfl (I1 := []) [] rfl rfl).more hb_25).moreM hb_26
  clear hh_7 ht_2 hvm_2 hz_2 hk_2 hS_2 hb_21 hb_22 hb_23 hb_24 hb_25
  clear hb_26
  try simp only at hr_3
  obtain ⟨hr_3_0, hr_3_1⟩ := hr_3
  rw [hQ]
  exact W.vret hx hb hr (fun t ht hW => ⟨⟨(), rfl, trivial, hh_2.rt (M1 := []) [] rfl ht⟩, by rw [ht]; try exact hh_2.1.1, fun q h9 hq => by rw [ht]; try exact hh_2.1.2.1 q h9 hq⟩) hh_2.1.2.2 dX13_printFormula_11
set_option maxHeartbeats 4000000 in
set_option maxRecDepth 20000 in
theorem uX13_printGoal (l : Launch) (dC : Nat → ClassId) (dI : Nat → Nat → Nat) (ca : Nat → ClassId) (base : Nat) (B : jF) (hB : jBok B) (hAp : jAp (dC, dI)) (hB15 : ∀ n G a H, B 15 n G a H ↔ jOb (dC, dI) 15 50 (F15 n G) a H) (hB101 : ∀ n G a H, B 101 n G a H ↔ jAr (dC, dI) (ca 1) (fun j z => True) n a H) (hB150 : ∀ n G a H, B 150 n G a H ↔ jAr (dC, dI) (ca 1) (fun j z => True) n a H) (hB151 : ∀ n G a H, B 151 n G a H ↔ jAr (dC, dI) (ca 1) (fun j z => True) n a H) (hB152 : ∀ n G a H, B 152 n G a H ↔ jAr (dC, dI) (ca 1) (fun j z => True) n a H) (hB153 : ∀ n G a H, B 153 n G a H ↔ jAr (dC, dI) (ca 1) (fun j z => True) n a H) (hB154 : ∀ n G a H, B 154 n G a H ↔ jAr (dC, dI) (ca 1) (fun j z => True) n a H) (hB155 : ∀ n G a H, B 155 n G a H ↔ jAr (dC, dI) (ca 1) (fun j z => 0 ≤ z.toInt ∧ z.toInt ≤ 11990) n a H) (hB156 : ∀ n G a H, B 156 n G a H ↔ jAr (dC, dI) (ca 1) (fun j z => 0 ≤ z.toInt ∧ z.toInt ≤ 10) n a H) (hB158 : ∀ n G a H, B 158 n G a H ↔ jAr (dC, dI) (ca 1) (fun j z => 0 ≤ z.toInt ∧ z.toInt ≤ 6) n a H) (hB159 : ∀ n G a H, B 159 n G a H ↔ jAr (dC, dI) (ca 1) (fun j z => 0 ≤ z.toInt ∧ z.toInt ≤ 8) n a H) (hB161 : ∀ n G a H, B 161 n G a H ↔ jAr (dC, dI) (ca 1) (fun j z => 0 ≤ z.toInt ∧ z.toInt ≤ 119999) n a H) (hB162 : ∀ n G a H, B 162 n G a H ↔ jAr (dC, dI) (ca 1) (fun j z => 0 ≤ z.toInt ∧ z.toInt ≤ 119999) n a H) (hB163 : ∀ n G a H, B 163 n G a H ↔ jAr (dC, dI) (ca 1) (fun j z => 0 ≤ z.toInt ∧ z.toInt ≤ 1599) n a H) (hB164 : ∀ n G a H, B 164 n G a H ↔ jAr (dC, dI) (ca 1) (fun j z => 0 ≤ z.toInt ∧ z.toInt ≤ 100000) n a H) (hB165 : ∀ n G a H, B 165 n G a H ↔ jAr (dC, dI) (ca 1) (fun j z => 0 ≤ z.toInt ∧ z.toInt ≤ 3) n a H) (hB166 : ∀ n G a H, B 166 n G a H ↔ jAr (dC, dI) (ca 1) (fun j z => True) n a H) (G0 : jT) (H0 : Heap) (r0 : Nat) (a1 : Int32) (zg : Nat) (zh : Nat) (zp : Nat) (zs : Nat) (zn : Nat) (za : Nat) (zb : Nat) (zc : Nat) (zy : Nat) (gN : Int) (gY : Int) (fg : Nat → Int32) (fh : Nat → Int32) (fp : Nat → Int32) (C : jK) : Met l yX13_printGoal (jw yX13_printGoal cX13_printGoal 3 none) ({ frames := 252, cells := 0, slots := 0, locals := 8244 }) (va_Pc [.ref r0, .int a1] (fun U => U.heap = H0 ∧ jX B base G0 [] H0 ∧ jG dC dI ca base U ∧ G0 r0 = some (15, 0) ∧ G0 zg = some (161, 46) ∧ G0 zh = some (159, 46) ∧ G0 zp = some (162, 368) ∧ G0 zs = some (150, 120000) ∧ G0 zn = some (151, 120000) ∧ G0 za = some (152, 120000) ∧ G0 zb = some (153, 120000) ∧ G0 zc = some (154, 120000) ∧ G0 zy = some (165, 16) ∧ jP (dC, dI) G0 H0 [(r0, 15, 22, .ref zg), (r0, 15, 25, .ref zh), (r0, 15, 27, .ref zp), (r0, 15, 0, .ref zs), (r0, 15, 1, .ref zn), (r0, 15, 2, .ref za), (r0, 15, 3, .ref zb), (r0, 15, 4, .ref zc), (r0, 15, 14, .ref zy)] ∧ jMc (dC, dI) G0 H0 [(zg, 161, 46, ca 1, fg), (zh, 159, 46, ca 1, fh), (zp, 162, 368, ca 1, fp), (zs, 150, 120000, ca 1, C.s), (zn, 151, 120000, ca 1, C.n), (za, 152, 120000, ca 1, C.a), (zb, 153, 120000, ca 1, C.b), (zc, 154, 120000, ca 1, C.c), (zy, 165, 16, ca 1, C.y)] ∧ jSl (jG1 C gN gY) fg fh fp a1.toInt ∧ 0 ≤ a1.toInt ∧ a1.toInt ≤ 45 ∧ gN ≤ 120000 ∧ gY ≤ 16)) (va_Qv (S := Unit) (fun u => True) (fun u t => jRt (dC, dI) B base G0 EX13_printGoal H0 [] t.heap) (jA base)) 0 0 (jA base) := by
  refine Met.ofW (cc := cX13_printGoal) (maxL := 3) (ret := none) (by decide) rfl ?_
  intro p e s m args below meth c s₁ Bd hml hv
  obtain ⟨rfl, hH0, hX, hG, hg_r0, hg_zg, hg_zh, hg_zp, hg_zs, hg_zn, hg_za, hg_zb, hg_zc, hg_zy, hP0, hM0, hp0, hp1, hp2, hp3, hp4⟩ := hv
  have hK := hG.1
  have hx := Bd.exec
  have hb := Bd.bytes
  have hr := Bd.returns
  have hts := atoms_spec (ws := (jw yX13_printGoal cX13_printGoal 3 none)) Bd.pre
  have htw : ∀ w ∈ jWl, w.before _ s = true := fun w h => hts w (List.mem_cons_of_mem _ h)
  have hown : s.vm.findClass RX13 = some m.cls := findClass_of_methodNamed Bd.named
  have hlocks := Bd.notSynchronized
  obtain ⟨Q, hQ⟩ : ∃ Q, Q = MQ below (va_Qv (S := Unit) (fun u => True) (fun u t => jRt (dC, dI) B base G0 EX13_printGoal H0 [] t.heap) (jA base)) ([.ref r0, .int a1] : List Value).toArray s 0 0 (jA base) := ⟨_, rfl⟩
  rw [← hQ]
  have hl := lv_entry ([.ref r0, .int a1]) (n := 3) (Nat.le_of_ble_eq_true rfl)
  rw [lg_entry_eq]
  generalize (lg_sl ([.ref r0, .int a1]) ++ List.replicate (3 - (lg_sl ([.ref r0, .int a1])).length) Slot.unset).toArray = ls at hl ⊢
  have hl : lv_has ls 3 [(0, .ref r0), (1, .int a1)] := hl
  generalize hR : (headSpec (jw yX13_printGoal cX13_printGoal 3 none) ({ frames := 252, cells := 0, slots := 0, locals := 8244 })).room = R
  subst hH0
  have hh : jSt (dC, dI) B base G0 G0 EX13_printGoal s.heap 0 0 [(r0, 15, 22, .ref zg), (r0, 15, 25, .ref zh), (r0, 15, 27, .ref zp), (r0, 15, 0, .ref zs), (r0, 15, 1, .ref zn), (r0, 15, 2, .ref za), (r0, 15, 3, .ref zb), (r0, 15, 4, .ref zc), (r0, 15, 14, .ref zy)] [(zg, 161, 46, ca 1, fg), (zh, 159, 46, ca 1, fh), (zp, 162, 368, ca 1, fp), (zs, 150, 120000, ca 1, C.s), (zn, 151, 120000, ca 1, C.n), (za, 152, 120000, ca 1, C.a), (zb, 153, 120000, ca 1, C.b), (zc, 154, 120000, ca 1, C.c), (zy, 165, 16, ca 1, C.y)] [] s.heap [] := jSt.start hX hP0 hM0 jIs.nil
  clear hX hP0
  have hk0 : (0 : Int32).toInt = 0 := by decide
  have hk1 : (1 : Int32).toInt = 1 := by decide
  have hk6 : (6 : Int32).toInt = 6 := by decide
  have hk8 : (8 : Int32).toInt = 8 := by decide
  have hk32 : (32 : Int32).toInt = 32 := by decide
  have hly_15_22 := htw (u_lay RX13 TX13 22) (jWc_wsX130 _ (u_in_lay (by decide)))
  have hly_15_23 := htw (u_lay RX13 TX13 23) (jWc_wsX130 _ (u_in_lay (by decide)))
  have hly_15_24 := htw (u_lay RX13 TX13 24) (jWc_wsX130 _ (u_in_lay (by decide)))
  have hly_15_25 := htw (u_lay RX13 TX13 25) (jWc_wsX130 _ (u_in_lay (by decide)))
  have hly_15_26 := htw (u_lay RX13 TX13 26) (jWc_wsX130 _ (u_in_lay (by decide)))
  have hly_15_27 := htw (u_lay RX13 TX13 27) (jWc_wsX130 _ (u_in_lay (by decide)))
  have hlk_56 := (htw (.fieldLink RX13 56 "ProofServerModel$Kernel" "vars" "[I") (jWr_14 _ (List.mem_of_getElem? (i := 23) rfl)))
  have hlk_59 := (htw (.fieldLink RX13 59 "ProofServerModel$Kernel" "varName" "[I") (jWr_15 _ (List.mem_of_getElem? (i := 0) rfl)))
  have hlk_62 := (htw (.fieldLink RX13 62 "ProofServerModel$Kernel" "hyps" "[I") (jWr_15 _ (List.mem_of_getElem? (i := 1) rfl)))
  have hlk_65 := (htw (.fieldLink RX13 65 "ProofServerModel$Kernel" "hypName" "[I") (jWr_15 _ (List.mem_of_getElem? (i := 2) rfl)))
  obtain ⟨str429, rstr429, hstr4290⟩ := hG.str (o := RX13) (k := 429) (tx := " : ") (List.mem_of_getElem? (i := 2824) (by decide +kernel))
  have hstr429 : jStr base str429 3 s s.heap := hstr4290
  have hlk_68 := (htw (.fieldLink RX13 68 "ProofServerModel$Kernel" "hyp" "[I") (jWr_15 _ (List.mem_of_getElem? (i := 3) rfl)))
  obtain ⟨str427, rstr427, hstr4270⟩ := hG.str (o := RX13) (k := 427) (tx := ", ") (List.mem_of_getElem? (i := 2863) (by decide +kernel))
  have hstr427 : jStr base str427 2 s s.heap := hstr4270
  obtain ⟨str434, rstr434, hstr4340⟩ := hG.str (o := RX13) (k := 434) (tx := "|- ") (List.mem_of_getElem? (i := 2868) (by decide +kernel))
  have hstr434 : jStr base str434 3 s s.heap := hstr4340
  have hlk_53 := (htw (.fieldLink RX13 53 "ProofServerModel$Kernel" "goal" "[I") (jWr_14 _ (List.mem_of_getElem? (i := 22) rfl)))
  have hrg_a1 := jb_rng a1
  refine lv_iconst (v := 0) hx hb dX13_printGoal_0 (by decide) ?_
  refine lv_istore_n (lv' := [(2, .int 0), (0, .ref r0), (1, .int a1)]) hx hb dX13_printGoal_1 rfl hl (by decide) rfl (fun ls hl => ?_)
  have L2 : ∀ (N : Nat) (v2_1 : Int32) (H_1 : Heap) (locs_1 : List Loc), jSt (dC, dI) B base G0 G0 EX13_printGoal s.heap 0 0 [(r0, 15, 22, .ref zg), (r0, 15, 25, .ref zh), (r0, 15, 27, .ref zp), (r0, 15, 0, .ref zs), (r0, 15, 1, .ref zn), (r0, 15, 2, .ref za), (r0, 15, 3, .ref zb), (r0, 15, 4, .ref zc), (r0, 15, 14, .ref zy)] [(zg, 161, 46, ca 1, fg), (zh, 159, 46, ca 1, fh), (zp, 162, 368, ca 1, fp), (zs, 150, 120000, ca 1, C.s), (zn, 151, 120000, ca 1, C.n), (za, 152, 120000, ca 1, C.a), (zb, 153, 120000, ca 1, C.b), (zc, 154, 120000, ca 1, C.c), (zy, 165, 16, ca 1, C.y)] [] H_1 locs_1 → (0 ≤ v2_1.toInt ∧ v2_1.toInt ≤ 6) → (6 - v2_1.toInt : Int) < N → ∀ ls : Array Slot, lv_has ls 3 [(0, .ref r0), (1, .int a1), (2, .int v2_1)] → W p l e R s m ([.ref r0, .int a1] : List Value).toArray below meth c H_1 locs_1 0 0 Q (F0 m 2 ls []) := by
    intro N
    induction N with
    | zero => intro v2_1 H_1 locs_1 hh_1  hi_1 hm; exact absurd hm (by omega)
    | succ N L2 =>
      intro v2_1 H_1 locs_1 hh_1  hi_1 hm_1 ls hl
      obtain ⟨hi_1_0, hi_1_1⟩ := hi_1
      refine lv_iload_n hx hb dX13_printGoal_2 rfl (lv_at hl 2 rfl) ?_
      refine lv_aload_n hx hb dX13_printGoal_3 rfl (lv_at hl 0 rfl) ?_
      obtain ⟨v_2, hv_2, hh_3⟩ := hh_1.pin (C := RX13) (T := TX13) (N := 50) hB15 rfl (by decide) hg_r0 (i := 23) (by decide) rfl
      clear hh_1
      obtain ⟨vars_4, rfl, hg_vars_4⟩ := hv_2
      refine j7_read hx hb hown hK (C := RX13) (T := TX13) (N := 50) rfl hly_15_23 hlk_56 (hh_3.at 0 rfl) dX13_printGoal_4 ?_
      refine lv_iload_n hx hb dX13_printGoal_7 rfl (lv_at hl 1 rfl) ?_
      refine j7_iald hx hb hK hh_3 hB158 1 rfl (by decide) hg_vars_4 (x := a1.toInt) (rfl) (by omega) dX13_printGoal_8 (fun z_5 (hz_5 : 0 ≤ z_5.toInt ∧ z_5.toInt ≤ 6) => ?_)
      refine lv_icmp_ge (tgt := 39) hx hb dX13_printGoal_9 (by decide) (fun c_6 => ?_) (fun c_6 => ?_)
      · skip
        have c_6' : v2_1.toInt ≥ z_5.toInt := jb_ge (rfl) (rfl) c_6
        refine lv_iconst (v := 0) hx hb dX13_printGoal_39 (by decide) ?_
        refine lv_istore_n (lv' := [(2, .int 0), (0, .ref r0), (1, .int a1)]) hx hb dX13_printGoal_40 rfl hl (by decide) rfl (fun ls hl => ?_)
        have L41 : ∀ (N : Nat) (v2_7 : Int32) (H_7 : Heap) (locs_7 : List Loc), jSt (dC, dI) B base G0 G0 EX13_printGoal s.heap 0 0 [(r0, 15, 23, .ref vars_4), (r0, 15, 22, .ref zg), (r0, 15, 25, .ref zh), (r0, 15, 27, .ref zp), (r0, 15, 0, .ref zs), (r0, 15, 1, .ref zn), (r0, 15, 2, .ref za), (r0, 15, 3, .ref zb), (r0, 15, 4, .ref zc), (r0, 15, 14, .ref zy)] [(zg, 161, 46, ca 1, fg), (zh, 159, 46, ca 1, fh), (zp, 162, 368, ca 1, fp), (zs, 150, 120000, ca 1, C.s), (zn, 151, 120000, ca 1, C.n), (za, 152, 120000, ca 1, C.a), (zb, 153, 120000, ca 1, C.b), (zc, 154, 120000, ca 1, C.c), (zy, 165, 16, ca 1, C.y)] [] H_7 locs_7 → (0 ≤ v2_7.toInt ∧ v2_7.toInt ≤ 8) → (8 - v2_7.toInt : Int) < N → ∀ ls : Array Slot, lv_has ls 3 [(0, .ref r0), (1, .int a1), (2, .int v2_7)] → W p l e R s m ([.ref r0, .int a1] : List Value).toArray below meth c H_7 locs_7 0 0 Q (F0 m 41 ls []) := by
          intro N
          induction N with
          | zero => intro v2_7 H_7 locs_7 hh_7  hi_7 hm; exact absurd hm (by omega)
          | succ N L41 =>
            intro v2_7 H_7 locs_7 hh_7  hi_7 hm_7 ls hl
            obtain ⟨hi_7_0, hi_7_1⟩ := hi_7
            refine lv_iload_n hx hb dX13_printGoal_41 rfl (lv_at hl 2 rfl) ?_
            refine lv_aload_n hx hb dX13_printGoal_42 rfl (lv_at hl 0 rfl) ?_
            refine j7_read hx hb hown hK (C := RX13) (T := TX13) (N := 50) rfl hly_15_25 hlk_62 (hh_7.at 2 rfl) dX13_printGoal_43 ?_
            refine lv_iload_n hx hb dX13_printGoal_46 rfl (lv_at hl 1 rfl) ?_
            refine j7_ialdM hx hb hK hh_7 hB159 1 rfl (by decide) hg_zh (x := a1.toInt) (rfl) (by omega) (j := 1) rfl dX13_printGoal_47 (fun z_8 ez_8 (hz_8 : 0 ≤ z_8.toInt ∧ z_8.toInt ≤ 8) => ?_)
            have hqz_8 : z_8.toInt = jSo fh (a1.toInt) := by unfold jSo; rw [ez_8]
            refine lv_icmp_ge (tgt := 101) hx hb dX13_printGoal_48 (by decide) (fun c_9 => ?_) (fun c_9 => ?_)
            · skip
              have c_9' : v2_7.toInt ≥ z_8.toInt := jb_ge (rfl) (rfl) c_9
              refine lv_aload_n hx hb dX13_printGoal_101 rfl (lv_at hl 0 rfl) ?_
              refine j_ldcSw hx hb hown rstr434 dX13_printGoal_102 ?_
              refine va_callv (A0 := jA base) (H0 := s.heap) (va_runV (As := [.ref str434]) (rest := []) ⟨hx, hb, hml, hown, hts⟩ (uX13_words l dC dI ca base B hB hAp hB15 hB101 G0 H_7 r0 str434 3) (cwV 1 hts (jgV (jWr_70 _ (List.mem_of_getElem? (i := 20) rfl)) (jWr_70 _ (List.mem_of_getElem? (i := 21) rfl)) (jWr_70 _ (List.mem_of_getElem? (i := 22) rfl)) (jWr_12 _ (List.mem_of_getElem? (i := 12) rfl)) (jWr_70 _ (List.mem_of_getElem? (i := 23) rfl))) rfl rfl rfl (by decide +kernel) ⟨by rw [← hR]; exact Nat.le_of_ble_eq_true rfl, by rw [← hR]; exact Nat.le_of_ble_eq_true rfl⟩) ⟨fun a U g mk q => by obtain ⟨q0, q1, q2, qK, q10, q11, q12, q13⟩ := q; exact ⟨q0, q1, q2, jG.calling g mk a qK, (q10.moved (Vm.Alike.refl U.vm)), q11, q12, q13⟩, hh_7.recv (C := RX13) (T := TX13) (N := 50) hB15 rfl (by decide) hg_r0 hK, fun U hU hW => ⟨rfl, hU, hh_7.2.1, hG.step hW hU hh_7.1, (hstr434.moved hW.alike).kept hh_7.1.2.1, hg_r0, jP.nil, by first | omega | rfl | assumption | decide | exact Or.inl rfl | exact Or.inr rfl | (simp only; omega)⟩⟩ rfl rfl hl.1 rfl (lv_room (Nat.le_of_ble_eq_true rfl)) dX13_printGoal_105 ⟨Nat.zero_le _, Nat.zero_le _⟩) hh_7.1 (fun q _ h => h) (fun q h => h) (fun u_10 t_10 H_10 locs_10 ht_10 hvm_10 hr_11 hb_10 hz_10 hk_10 hS_10 => ?_)
              rw [ht_10] at hb_10
              obtain ⟨hb_101, hb_102, hb_103, hb_104, hb_105⟩ := hb_10
              have hh_10 : jSt (dC, dI) B base G0 G0 EX13_printGoal s.heap 0 0 [(r0, 15, 23, .ref vars_4), (r0, 15, 22, .ref zg), (r0, 15, 25, .ref zh), (r0, 15, 27, .ref zp), (r0, 15, 0, .ref zs), (r0, 15, 1, .ref zn), (r0, 15, 2, .ref za), (r0, 15, 3, .ref zb), (r0, 15, 4, .ref zc), (r0, 15, 14, .ref zy)] [(zg, 161, 46, ca 1, fg), (zh, 159, 46, ca 1, fh), (zp, 162, 368, ca 1, fp), (zs, 150, 120000, ca 1, C.s), (zn, 151, 120000, ca 1, C.n), (za, 152, 120000, ca 1, C.a), (zb, 153, 120000, ca 1, C.b), (zc, 154, 120000, ca 1, C.c), (zy, 165, 16, ca 1, C.y)] [] H_10 locs_10 := ((hh_7.call hb_101 hb_102 hb_103 hb_104 hS_10 rfl (L1 := [(r0, 15, 23, .ref vars_4), (r0, 15, 22, .ref zg), (r0, 15, 25, .ref zh), (r0, 15, 27, .ref zp), (r0, 15, 0, .ref zs), (r0, 15, 1, .ref zn), (r0, 15, 2, .ref za), (r0, 15, 3, .ref zb), (r0, 15, 4, .ref zc), (r0, 15, 14, .ref zy)]) [0, 1, 2, 3, 4, 5, 6, 7, 8, 9] rfl rfl (M1 := [(zg, 161, 46, ca 1, fg), (zh, 159, 46, ca 1, fh), (zp, 162, 368, ca 1, fp), (zs, 150, 120000, ca 1, C.s), (zn, 151, 120000, ca 1, C.n), (za, 152, 120000, ca 1, C.a), (zb, 153, 120000, ca 1, C.b), (zc, 154, 120000, ca 1, C.c), (zy, 165, 16, ca 1, C.y)]) [0, 1, 2, 3, 4, 5, 6, 7, 8] rfl rfl (I1 := []) [] rfl rfl).more hb_105)
              clear hh_7 ht_10 hvm_10 hz_10 hk_10 hS_10 hb_101 hb_102 hb_103 hb_104 hb_105
              refine lv_aload_n hx hb dX13_printGoal_108 rfl (lv_at hl 0 rfl) ?_
              refine lv_aload_n hx hb dX13_printGoal_109 rfl (lv_at hl 0 rfl) ?_
              refine j7_read hx hb hown hK (C := RX13) (T := TX13) (N := 50) rfl hly_15_22 hlk_53 (hh_10.at 1 rfl) dX13_printGoal_110 ?_
              refine lv_iload_n hx hb dX13_printGoal_113 rfl (lv_at hl 1 rfl) ?_
              refine j7_ialdM hx hb hK hh_10 hB161 1 rfl (by decide) hg_zg (x := a1.toInt) (rfl) (by omega) (j := 0) rfl dX13_printGoal_114 (fun z_12 ez_12 (hz_12 : 0 ≤ z_12.toInt ∧ z_12.toInt ≤ 119999) => ?_)
              have hqz_12 : z_12.toInt = jSo fg (a1.toInt) := by unfold jSo; rw [ez_12]
              refine va_callv (A0 := jA base) (H0 := s.heap) (va_runV (As := [.int z_12]) (rest := []) ⟨hx, hb, hml, hown, hts⟩ (uX13_printFormula l dC dI ca base B hB hAp hB15 hB101 hB150 hB151 hB152 hB153 hB154 hB155 hB156 hB163 hB164 hB165 hB166 G0 H_10 r0 z_12 zs zn za zb zc zy C) (cwV 1 hts (jgV (jWr_71 _ (List.mem_of_getElem? (i := 0) rfl)) (jWr_71 _ (List.mem_of_getElem? (i := 1) rfl)) (jWr_71 _ (List.mem_of_getElem? (i := 2) rfl)) (jWr_12 _ (List.mem_of_getElem? (i := 12) rfl)) (jWr_71 _ (List.mem_of_getElem? (i := 3) rfl))) rfl rfl rfl (by decide +kernel) ⟨by rw [← hR]; exact Nat.le_of_ble_eq_true rfl, by rw [← hR]; exact Nat.le_of_ble_eq_true rfl⟩) ⟨fun a U g mk q => by obtain ⟨q0, q1, q2, qK, q10, q11, q12, q13, q14, q15, q16, q17, q18, q19⟩ := q; exact ⟨q0, q1, q2, jG.calling g mk a qK, q10, q11, q12, q13, q14, q15, q16, q17, q18, q19⟩, hh_10.recv (C := RX13) (T := TX13) (N := 50) hB15 rfl (by decide) hg_r0 hK, fun U hU hW => ⟨rfl, hU, hh_10.2.1, hG.step hW hU hh_10.1, hg_r0, hg_zs, hg_zn, hg_za, hg_zb, hg_zc, hg_zy, (hh_10.2.2.1.sub (L1 := [(r0, 15, 0, .ref zs), (r0, 15, 1, .ref zn), (r0, 15, 2, .ref za), (r0, 15, 3, .ref zb), (r0, 15, 4, .ref zc), (r0, 15, 14, .ref zy)]) [4, 5, 6, 7, 8, 9] rfl), (hh_10.2.2.2.2.2.2.2.1.sub (L1 := [(zs, 150, 120000, ca 1, C.s), (zn, 151, 120000, ca 1, C.n), (za, 152, 120000, ca 1, C.a), (zb, 153, 120000, ca 1, C.b), (zc, 154, 120000, ca 1, C.c), (zy, 165, 16, ca 1, C.y)]) [3, 4, 5, 6, 7, 8] rfl), by first | assumption | (rw [hqz_12]; exact (hp0.1.1.wide (by omega) (by omega))) | omega⟩⟩ rfl rfl hl.1 rfl (lv_room (Nat.le_of_ble_eq_true rfl)) dX13_printGoal_115 ⟨Nat.zero_le _, Nat.zero_le _⟩) hh_10.1 (fun q _ h => h) (fun q h => h) (fun u_13 t_13 H_13 locs_13 ht_13 hvm_13 hr_14 hb_13 hz_13 hk_13 hS_13 => ?_)
              rw [ht_13] at hb_13
              obtain ⟨hb_131, hb_132, hb_133, hb_134, hb_135⟩ := hb_13
              have hh_13 : jSt (dC, dI) B base G0 G0 EX13_printGoal s.heap 0 0 [(r0, 15, 23, .ref vars_4), (r0, 15, 22, .ref zg), (r0, 15, 25, .ref zh), (r0, 15, 27, .ref zp), (r0, 15, 0, .ref zs), (r0, 15, 1, .ref zn), (r0, 15, 2, .ref za), (r0, 15, 3, .ref zb), (r0, 15, 4, .ref zc), (r0, 15, 14, .ref zy)] [(zg, 161, 46, ca 1, fg), (zh, 159, 46, ca 1, fh), (zp, 162, 368, ca 1, fp), (zs, 150, 120000, ca 1, C.s), (zn, 151, 120000, ca 1, C.n), (za, 152, 120000, ca 1, C.a), (zb, 153, 120000, ca 1, C.b), (zc, 154, 120000, ca 1, C.c), (zy, 165, 16, ca 1, C.y)] [] H_13 locs_13 := ((hh_10.call hb_131 hb_132 hb_133 hb_134 hS_13 rfl (L1 := [(r0, 15, 23, .ref vars_4), (r0, 15, 22, .ref zg), (r0, 15, 25, .ref zh), (r0, 15, 27, .ref zp), (r0, 15, 0, .ref zs), (r0, 15, 1, .ref zn), (r0, 15, 2, .ref za), (r0, 15, 3, .ref zb), (r0, 15, 4, .ref zc), (r0, 15, 14, .ref zy)]) [0, 1, 2, 3, 4, 5, 6, 7, 8, 9] rfl rfl (M1 := [(zg, 161, 46, ca 1, fg), (zh, 159, 46, ca 1, fh), (zp, 162, 368, ca 1, fp), (zs, 150, 120000, ca 1, C.s), (zn, 151, 120000, ca 1, C.n), (za, 152, 120000, ca 1, C.a), (zb, 153, 120000, ca 1, C.b), (zc, 154, 120000, ca 1, C.c), (zy, 165, 16, ca 1, C.y)]) [0, 1, 2, 3, 4, 5, 6, 7, 8] rfl rfl (I1 := []) [] rfl rfl).more hb_135)
              clear hh_10 ht_13 hvm_13 hz_13 hk_13 hS_13 hb_131 hb_132 hb_133 hb_134 hb_135
              rw [hQ]
              exact W.vret hx hb hr (fun t ht hW => ⟨⟨(), rfl, trivial, hh_13.rt (M1 := []) [] rfl ht⟩, by rw [ht]; try exact hh_13.1.1, fun q h9 hq => by rw [ht]; try exact hh_13.1.2.1 q h9 hq⟩) hh_13.1.2.2 dX13_printGoal_118
            · skip
              have c_9' : v2_7.toInt < z_8.toInt := jb_ge_n (rfl) (rfl) c_9
              refine lv_aload_n hx hb dX13_printGoal_51 rfl (lv_at hl 0 rfl) ?_
              refine lv_aload_n hx hb dX13_printGoal_52 rfl (lv_at hl 0 rfl) ?_
              obtain ⟨v_15, hv_15, hh_16⟩ := hh_7.pin (C := RX13) (T := TX13) (N := 50) hB15 rfl (by decide) hg_r0 (i := 26) (by decide) rfl
              clear hh_7
              obtain ⟨hypName_17, rfl, hg_hypName_17⟩ := hv_15
              refine j7_read hx hb hown hK (C := RX13) (T := TX13) (N := 50) rfl hly_15_26 hlk_65 (hh_16.at 0 rfl) dX13_printGoal_53 ?_
              refine lv_bipush (v := 8) hx hb dX13_printGoal_56 (by decide) ?_
              refine lv_iload_n hx hb dX13_printGoal_58 rfl (lv_at hl 1 rfl) ?_
              refine lv_imul hx hb dX13_printGoal_59 ?_
              refine lv_topi (fun z_18 ez_18 => ?_)
              have hz_18 : z_18.toInt = 8 * a1.toInt := by rw [ez_18]; exact jb_imul2 ((by decide)) (rfl) (by omega)
              refine lv_iload_n hx hb dX13_printGoal_60 rfl (lv_at hl 2 rfl) ?_
              refine lv_iadd hx hb dX13_printGoal_61 ?_
              refine lv_topi (fun z_19 ez_19 => ?_)
              have hz_19 : z_19.toInt = z_18.toInt + v2_7.toInt := by rw [ez_19]; exact jb_iadd2 (rfl) (rfl) (by omega)
              refine j7_iald hx hb hK hh_16 hB163 1 rfl (by decide) hg_hypName_17 (x := z_19.toInt) (rfl) (by omega) dX13_printGoal_62 (fun z_20 (hz_20 : 0 ≤ z_20.toInt ∧ z_20.toInt ≤ 1599) => ?_)
              refine va_callv (A0 := jA base) (H0 := s.heap) (va_runV (As := [.int z_20]) (rest := []) ⟨hx, hb, hml, hown, hts⟩ (uX13_putName l dC dI ca base B hB hAp hB15 hB101 hB155 hB156 hB166 G0 H_7 r0 z_20) (cwV 1 hts (jgV (jWr_70 _ (List.mem_of_getElem? (i := 19) rfl)) (jWr_70 _ (List.mem_of_getElem? (i := 3) rfl)) (jWr_70 _ (List.mem_of_getElem? (i := 4) rfl)) (jWr_12 _ (List.mem_of_getElem? (i := 12) rfl)) (jWr_70 _ (List.mem_of_getElem? (i := 5) rfl))) rfl rfl rfl (by decide +kernel) ⟨by rw [← hR]; exact Nat.le_of_ble_eq_true rfl, by rw [← hR]; exact Nat.le_of_ble_eq_true rfl⟩) ⟨fun a U g mk q => by obtain ⟨q0, q1, q2, qK, q10, q11, q12⟩ := q; exact ⟨q0, q1, q2, jG.calling g mk a qK, q10, q11, q12⟩, hh_16.recv (C := RX13) (T := TX13) (N := 50) hB15 rfl (by decide) hg_r0 hK, fun U hU hW => ⟨rfl, hU, hh_16.2.1, hG.step hW hU hh_16.1, hg_r0, jP.nil, by first | omega | (refine ⟨?_, ?_⟩ <;> (first | omega | rfl | assumption | decide | exact Or.inl rfl | exact Or.inr rfl | (simp only; omega)))⟩⟩ rfl rfl hl.1 rfl (lv_room (Nat.le_of_ble_eq_true rfl)) dX13_printGoal_63 ⟨Nat.zero_le _, Nat.zero_le _⟩) hh_16.1 (fun q _ h => h) (fun q h => h) (fun u_21 t_21 H_21 locs_21 ht_21 hvm_21 hr_22 hb_21 hz_21 hk_21 hS_21 => ?_)
              rw [ht_21] at hb_21
              obtain ⟨hb_211, hb_212, hb_213, hb_214, hb_215⟩ := hb_21
              have hh_21 : jSt (dC, dI) B base G0 G0 EX13_printGoal s.heap 0 0 [(r0, 15, 26, .ref hypName_17), (r0, 15, 23, .ref vars_4), (r0, 15, 22, .ref zg), (r0, 15, 25, .ref zh), (r0, 15, 27, .ref zp), (r0, 15, 0, .ref zs), (r0, 15, 1, .ref zn), (r0, 15, 2, .ref za), (r0, 15, 3, .ref zb), (r0, 15, 4, .ref zc), (r0, 15, 14, .ref zy)] [(zg, 161, 46, ca 1, fg), (zh, 159, 46, ca 1, fh), (zp, 162, 368, ca 1, fp), (zs, 150, 120000, ca 1, C.s), (zn, 151, 120000, ca 1, C.n), (za, 152, 120000, ca 1, C.a), (zb, 153, 120000, ca 1, C.b), (zc, 154, 120000, ca 1, C.c), (zy, 165, 16, ca 1, C.y)] [] H_21 locs_21 := ((hh_16.call hb_211 hb_212 hb_213 hb_214 hS_21 rfl (L1 := [(r0, 15, 26, .ref hypName_17), (r0, 15, 23, .ref vars_4), (r0, 15, 22, .ref zg), (r0, 15, 25, .ref zh), (r0, 15, 27, .ref zp), (r0, 15, 0, .ref zs), (r0, 15, 1, .ref zn), (r0, 15, 2, .ref za), (r0, 15, 3, .ref zb), (r0, 15, 4, .ref zc), (r0, 15, 14, .ref zy)]) [0, 1, 2, 3, 4, 5, 6, 7, 8, 9, 10] rfl rfl (M1 := [(zg, 161, 46, ca 1, fg), (zh, 159, 46, ca 1, fh), (zp, 162, 368, ca 1, fp), (zs, 150, 120000, ca 1, C.s), (zn, 151, 120000, ca 1, C.n), (za, 152, 120000, ca 1, C.a), (zb, 153, 120000, ca 1, C.b), (zc, 154, 120000, ca 1, C.c), (zy, 165, 16, ca 1, C.y)]) [0, 1, 2, 3, 4, 5, 6, 7, 8] rfl rfl (I1 := []) [] rfl rfl).more hb_215)
              clear hh_16 ht_21 hvm_21 hz_21 hk_21 hS_21 hb_211 hb_212 hb_213 hb_214 hb_215
              refine lv_aload_n hx hb dX13_printGoal_66 rfl (lv_at hl 0 rfl) ?_
              refine j_ldcSw hx hb hown rstr429 dX13_printGoal_67 ?_
              refine va_callv (A0 := jA base) (H0 := s.heap) (va_runV (As := [.ref str429]) (rest := []) ⟨hx, hb, hml, hown, hts⟩ (uX13_words l dC dI ca base B hB hAp hB15 hB101 G0 H_21 r0 str429 3) (cwV 1 hts (jgV (jWr_70 _ (List.mem_of_getElem? (i := 20) rfl)) (jWr_70 _ (List.mem_of_getElem? (i := 21) rfl)) (jWr_70 _ (List.mem_of_getElem? (i := 22) rfl)) (jWr_12 _ (List.mem_of_getElem? (i := 12) rfl)) (jWr_70 _ (List.mem_of_getElem? (i := 23) rfl))) rfl rfl rfl (by decide +kernel) ⟨by rw [← hR]; exact Nat.le_of_ble_eq_true rfl, by rw [← hR]; exact Nat.le_of_ble_eq_true rfl⟩) ⟨fun a U g mk q => by obtain ⟨q0, q1, q2, qK, q10, q11, q12, q13⟩ := q; exact ⟨q0, q1, q2, jG.calling g mk a qK, (q10.moved (Vm.Alike.refl U.vm)), q11, q12, q13⟩, hh_21.recv (C := RX13) (T := TX13) (N := 50) hB15 rfl (by decide) hg_r0 hK, fun U hU hW => ⟨rfl, hU, hh_21.2.1, hG.step hW hU hh_21.1, (hstr429.moved hW.alike).kept hh_21.1.2.1, hg_r0, jP.nil, by first | omega | rfl | assumption | decide | exact Or.inl rfl | exact Or.inr rfl | (simp only; omega)⟩⟩ rfl rfl hl.1 rfl (lv_room (Nat.le_of_ble_eq_true rfl)) dX13_printGoal_70 ⟨Nat.zero_le _, Nat.zero_le _⟩) hh_21.1 (fun q _ h => h) (fun q h => h) (fun u_23 t_23 H_23 locs_23 ht_23 hvm_23 hr_24 hb_23 hz_23 hk_23 hS_23 => ?_)
              rw [ht_23] at hb_23
              obtain ⟨hb_231, hb_232, hb_233, hb_234, hb_235⟩ := hb_23
              have hh_23 : jSt (dC, dI) B base G0 G0 EX13_printGoal s.heap 0 0 [(r0, 15, 26, .ref hypName_17), (r0, 15, 23, .ref vars_4), (r0, 15, 22, .ref zg), (r0, 15, 25, .ref zh), (r0, 15, 27, .ref zp), (r0, 15, 0, .ref zs), (r0, 15, 1, .ref zn), (r0, 15, 2, .ref za), (r0, 15, 3, .ref zb), (r0, 15, 4, .ref zc), (r0, 15, 14, .ref zy)] [(zg, 161, 46, ca 1, fg), (zh, 159, 46, ca 1, fh), (zp, 162, 368, ca 1, fp), (zs, 150, 120000, ca 1, C.s), (zn, 151, 120000, ca 1, C.n), (za, 152, 120000, ca 1, C.a), (zb, 153, 120000, ca 1, C.b), (zc, 154, 120000, ca 1, C.c), (zy, 165, 16, ca 1, C.y)] [] H_23 locs_23 := ((hh_21.call hb_231 hb_232 hb_233 hb_234 hS_23 rfl (L1 := [(r0, 15, 26, .ref hypName_17), (r0, 15, 23, .ref vars_4), (r0, 15, 22, .ref zg), (r0, 15, 25, .ref zh), (r0, 15, 27, .ref zp), (r0, 15, 0, .ref zs), (r0, 15, 1, .ref zn), (r0, 15, 2, .ref za), (r0, 15, 3, .ref zb), (r0, 15, 4, .ref zc), (r0, 15, 14, .ref zy)]) [0, 1, 2, 3, 4, 5, 6, 7, 8, 9, 10] rfl rfl (M1 := [(zg, 161, 46, ca 1, fg), (zh, 159, 46, ca 1, fh), (zp, 162, 368, ca 1, fp), (zs, 150, 120000, ca 1, C.s), (zn, 151, 120000, ca 1, C.n), (za, 152, 120000, ca 1, C.a), (zb, 153, 120000, ca 1, C.b), (zc, 154, 120000, ca 1, C.c), (zy, 165, 16, ca 1, C.y)]) [0, 1, 2, 3, 4, 5, 6, 7, 8] rfl rfl (I1 := []) [] rfl rfl).more hb_235)
              clear hh_21 ht_23 hvm_23 hz_23 hk_23 hS_23 hb_231 hb_232 hb_233 hb_234 hb_235
              refine lv_aload_n hx hb dX13_printGoal_73 rfl (lv_at hl 0 rfl) ?_
              refine lv_aload_n hx hb dX13_printGoal_74 rfl (lv_at hl 0 rfl) ?_
              refine j7_read hx hb hown hK (C := RX13) (T := TX13) (N := 50) rfl hly_15_27 hlk_68 (hh_23.at 4 rfl) dX13_printGoal_75 ?_
              refine lv_bipush (v := 8) hx hb dX13_printGoal_78 (by decide) ?_
              refine lv_iload_n hx hb dX13_printGoal_80 rfl (lv_at hl 1 rfl) ?_
              refine lv_imul hx hb dX13_printGoal_81 ?_
              refine lv_topi (fun z_25 ez_25 => ?_)
              have hz_25 : z_25.toInt = 8 * a1.toInt := by rw [ez_25]; exact jb_imul2 ((by decide)) (rfl) (by omega)
              refine lv_iload_n hx hb dX13_printGoal_82 rfl (lv_at hl 2 rfl) ?_
              refine lv_iadd hx hb dX13_printGoal_83 ?_
              refine lv_topi (fun z_26 ez_26 => ?_)
              have hz_26 : z_26.toInt = z_25.toInt + v2_7.toInt := by rw [ez_26]; exact jb_iadd2 (rfl) (rfl) (by omega)
              refine j7_ialdM hx hb hK hh_23 hB162 1 rfl (by decide) hg_zp (x := z_26.toInt) (rfl) (by omega) (j := 2) rfl dX13_printGoal_84 (fun z_27 ez_27 (hz_27 : 0 ≤ z_27.toInt ∧ z_27.toInt ≤ 119999) => ?_)
              have hqz_27 : z_27.toInt = jSo fp (((8 * a1.toInt) + v2_7.toInt)) := by unfold jSo; rw [ez_27, show z_26.toInt = ((8 * a1.toInt) + v2_7.toInt) by omega]
              refine va_callv (A0 := jA base) (H0 := s.heap) (va_runV (As := [.int z_27]) (rest := []) ⟨hx, hb, hml, hown, hts⟩ (uX13_printFormula l dC dI ca base B hB hAp hB15 hB101 hB150 hB151 hB152 hB153 hB154 hB155 hB156 hB163 hB164 hB165 hB166 G0 H_23 r0 z_27 zs zn za zb zc zy C) (cwV 1 hts (jgV (jWr_71 _ (List.mem_of_getElem? (i := 0) rfl)) (jWr_71 _ (List.mem_of_getElem? (i := 1) rfl)) (jWr_71 _ (List.mem_of_getElem? (i := 2) rfl)) (jWr_12 _ (List.mem_of_getElem? (i := 12) rfl)) (jWr_71 _ (List.mem_of_getElem? (i := 3) rfl))) rfl rfl rfl (by decide +kernel) ⟨by rw [← hR]; exact Nat.le_of_ble_eq_true rfl, by rw [← hR]; exact Nat.le_of_ble_eq_true rfl⟩) ⟨fun a U g mk q => by obtain ⟨q0, q1, q2, qK, q10, q11, q12, q13, q14, q15, q16, q17, q18, q19⟩ := q; exact ⟨q0, q1, q2, jG.calling g mk a qK, q10, q11, q12, q13, q14, q15, q16, q17, q18, q19⟩, hh_23.recv (C := RX13) (T := TX13) (N := 50) hB15 rfl (by decide) hg_r0 hK, fun U hU hW => ⟨rfl, hU, hh_23.2.1, hG.step hW hU hh_23.1, hg_r0, hg_zs, hg_zn, hg_za, hg_zb, hg_zc, hg_zy, (hh_23.2.2.1.sub (L1 := [(r0, 15, 0, .ref zs), (r0, 15, 1, .ref zn), (r0, 15, 2, .ref za), (r0, 15, 3, .ref zb), (r0, 15, 4, .ref zc), (r0, 15, 14, .ref zy)]) [5, 6, 7, 8, 9, 10] rfl), (hh_23.2.2.2.2.2.2.2.1.sub (L1 := [(zs, 150, 120000, ca 1, C.s), (zn, 151, 120000, ca 1, C.n), (za, 152, 120000, ca 1, C.a), (zb, 153, 120000, ca 1, C.b), (zc, 154, 120000, ca 1, C.c), (zy, 165, 16, ca 1, C.y)]) [3, 4, 5, 6, 7, 8] rfl), by first | assumption | (rw [hqz_27]; exact ((hp0.2.2.2 _ (by omega) (by omega)).1.wide (by omega) (by omega))) | omega⟩⟩ rfl rfl hl.1 rfl (lv_room (Nat.le_of_ble_eq_true rfl)) dX13_printGoal_85 ⟨Nat.zero_le _, Nat.zero_le _⟩) hh_23.1 (fun q _ h => h) (fun q h => h) (fun u_28 t_28 H_28 locs_28 ht_28 hvm_28 hr_29 hb_28 hz_28 hk_28 hS_28 => ?_)
              rw [ht_28] at hb_28
              obtain ⟨hb_281, hb_282, hb_283, hb_284, hb_285⟩ := hb_28
              have hh_28 : jSt (dC, dI) B base G0 G0 EX13_printGoal s.heap 0 0 [(r0, 15, 26, .ref hypName_17), (r0, 15, 23, .ref vars_4), (r0, 15, 22, .ref zg), (r0, 15, 25, .ref zh), (r0, 15, 27, .ref zp), (r0, 15, 0, .ref zs), (r0, 15, 1, .ref zn), (r0, 15, 2, .ref za), (r0, 15, 3, .ref zb), (r0, 15, 4, .ref zc), (r0, 15, 14, .ref zy)] [(zg, 161, 46, ca 1, fg), (zh, 159, 46, ca 1, fh), (zp, 162, 368, ca 1, fp), (zs, 150, 120000, ca 1, C.s), (zn, 151, 120000, ca 1, C.n), (za, 152, 120000, ca 1, C.a), (zb, 153, 120000, ca 1, C.b), (zc, 154, 120000, ca 1, C.c), (zy, 165, 16, ca 1, C.y)] [] H_28 locs_28 := ((hh_23.call hb_281 hb_282 hb_283 hb_284 hS_28 rfl (L1 := [(r0, 15, 26, .ref hypName_17), (r0, 15, 23, .ref vars_4), (r0, 15, 22, .ref zg), (r0, 15, 25, .ref zh), (r0, 15, 27, .ref zp), (r0, 15, 0, .ref zs), (r0, 15, 1, .ref zn), (r0, 15, 2, .ref za), (r0, 15, 3, .ref zb), (r0, 15, 4, .ref zc), (r0, 15, 14, .ref zy)]) [0, 1, 2, 3, 4, 5, 6, 7, 8, 9, 10] rfl rfl (M1 := [(zg, 161, 46, ca 1, fg), (zh, 159, 46, ca 1, fh), (zp, 162, 368, ca 1, fp), (zs, 150, 120000, ca 1, C.s), (zn, 151, 120000, ca 1, C.n), (za, 152, 120000, ca 1, C.a), (zb, 153, 120000, ca 1, C.b), (zc, 154, 120000, ca 1, C.c), (zy, 165, 16, ca 1, C.y)]) [0, 1, 2, 3, 4, 5, 6, 7, 8] rfl rfl (I1 := []) [] rfl rfl).more hb_285)
              clear hh_23 ht_28 hvm_28 hz_28 hk_28 hS_28 hb_281 hb_282 hb_283 hb_284 hb_285
              refine lv_aload_n hx hb dX13_printGoal_88 rfl (lv_at hl 0 rfl) ?_
              refine j_ldcSw hx hb hown rstr427 dX13_printGoal_89 ?_
              refine va_callv (A0 := jA base) (H0 := s.heap) (va_runV (As := [.ref str427]) (rest := []) ⟨hx, hb, hml, hown, hts⟩ (uX13_words l dC dI ca base B hB hAp hB15 hB101 G0 H_28 r0 str427 2) (cwV 1 hts (jgV (jWr_70 _ (List.mem_of_getElem? (i := 20) rfl)) (jWr_70 _ (List.mem_of_getElem? (i := 21) rfl)) (jWr_70 _ (List.mem_of_getElem? (i := 22) rfl)) (jWr_12 _ (List.mem_of_getElem? (i := 12) rfl)) (jWr_70 _ (List.mem_of_getElem? (i := 23) rfl))) rfl rfl rfl (by decide +kernel) ⟨by rw [← hR]; exact Nat.le_of_ble_eq_true rfl, by rw [← hR]; exact Nat.le_of_ble_eq_true rfl⟩) ⟨fun a U g mk q => by obtain ⟨q0, q1, q2, qK, q10, q11, q12, q13⟩ := q; exact ⟨q0, q1, q2, jG.calling g mk a qK, (q10.moved (Vm.Alike.refl U.vm)), q11, q12, q13⟩, hh_28.recv (C := RX13) (T := TX13) (N := 50) hB15 rfl (by decide) hg_r0 hK, fun U hU hW => ⟨rfl, hU, hh_28.2.1, hG.step hW hU hh_28.1, (hstr427.moved hW.alike).kept hh_28.1.2.1, hg_r0, jP.nil, by first | omega | rfl | assumption | decide | exact Or.inl rfl | exact Or.inr rfl | (simp only; omega)⟩⟩ rfl rfl hl.1 rfl (lv_room (Nat.le_of_ble_eq_true rfl)) dX13_printGoal_92 ⟨Nat.zero_le _, Nat.zero_le _⟩) hh_28.1 (fun q _ h => h) (fun q h => h) (fun u_30 t_30 H_30 locs_30 ht_30 hvm_30 hr_31 hb_30 hz_30 hk_30 hS_30 => ?_)
              rw [ht_30] at hb_30
              obtain ⟨hb_301, hb_302, hb_303, hb_304, hb_305⟩ := hb_30
              have hh_30 : jSt (dC, dI) B base G0 G0 EX13_printGoal s.heap 0 0 [(r0, 15, 26, .ref hypName_17), (r0, 15, 23, .ref vars_4), (r0, 15, 22, .ref zg), (r0, 15, 25, .ref zh), (r0, 15, 27, .ref zp), (r0, 15, 0, .ref zs), (r0, 15, 1, .ref zn), (r0, 15, 2, .ref za), (r0, 15, 3, .ref zb), (r0, 15, 4, .ref zc), (r0, 15, 14, .ref zy)] [(zg, 161, 46, ca 1, fg), (zh, 159, 46, ca 1, fh), (zp, 162, 368, ca 1, fp), (zs, 150, 120000, ca 1, C.s), (zn, 151, 120000, ca 1, C.n), (za, 152, 120000, ca 1, C.a), (zb, 153, 120000, ca 1, C.b), (zc, 154, 120000, ca 1, C.c), (zy, 165, 16, ca 1, C.y)] [] H_30 locs_30 := ((hh_28.call hb_301 hb_302 hb_303 hb_304 hS_30 rfl (L1 := [(r0, 15, 26, .ref hypName_17), (r0, 15, 23, .ref vars_4), (r0, 15, 22, .ref zg), (r0, 15, 25, .ref zh), (r0, 15, 27, .ref zp), (r0, 15, 0, .ref zs), (r0, 15, 1, .ref zn), (r0, 15, 2, .ref za), (r0, 15, 3, .ref zb), (r0, 15, 4, .ref zc), (r0, 15, 14, .ref zy)]) [0, 1, 2, 3, 4, 5, 6, 7, 8, 9, 10] rfl rfl (M1 := [(zg, 161, 46, ca 1, fg), (zh, 159, 46, ca 1, fh), (zp, 162, 368, ca 1, fp), (zs, 150, 120000, ca 1, C.s), (zn, 151, 120000, ca 1, C.n), (za, 152, 120000, ca 1, C.a), (zb, 153, 120000, ca 1, C.b), (zc, 154, 120000, ca 1, C.c), (zy, 165, 16, ca 1, C.y)]) [0, 1, 2, 3, 4, 5, 6, 7, 8] rfl rfl (I1 := []) [] rfl rfl).more hb_305)
              clear hh_28 ht_30 hvm_30 hz_30 hk_30 hS_30 hb_301 hb_302 hb_303 hb_304 hb_305
              obtain ⟨z_32, ez_32⟩ : ∃ y : Int32, y = v2_7 + 1 := ⟨_, rfl⟩
              refine lv_iinc (v := z_32) (lv' := [(2, .int z_32), (0, .ref r0), (1, .int a1)]) hx hb dX13_printGoal_95 hl (k := 2) rfl (by rw [ez_32]; rfl) (by decide) rfl (fun ls hl => ?_)
              have hz_32 : z_32.toInt = v2_7.toInt + 1 := by rw [ez_32]; exact jb_iadd2 (rfl) (by decide) (by omega)
              refine lv_goto (tgt := 41) hx hb dX13_printGoal_98 (by decide) ?_
              exact L41 z_32 _ _ (hh_30.sub (L1 := [(r0, 15, 23, .ref vars_4), (r0, 15, 22, .ref zg), (r0, 15, 25, .ref zh), (r0, 15, 27, .ref zp), (r0, 15, 0, .ref zs), (r0, 15, 1, .ref zn), (r0, 15, 2, .ref za), (r0, 15, 3, .ref zb), (r0, 15, 4, .ref zc), (r0, 15, 14, .ref zy)]) [1, 2, 3, 4, 5, 6, 7, 8, 9, 10] rfl (M1 := [(zg, 161, 46, ca 1, fg), (zh, 159, 46, ca 1, fh), (zp, 162, 368, ca 1, fp), (zs, 150, 120000, ca 1, C.s), (zn, 151, 120000, ca 1, C.n), (za, 152, 120000, ca 1, C.a), (zb, 153, 120000, ca 1, C.b), (zc, 154, 120000, ca 1, C.c), (zy, 165, 16, ca 1, C.y)]) [0, 1, 2, 3, 4, 5, 6, 7, 8] rfl (I1 := []) [] rfl) (by first | omega | (refine ⟨?_, ?_⟩ <;> (first | omega | rfl | assumption | decide | exact Or.inl rfl | exact Or.inr rfl | (simp only; omega)))) (by omega) _ (lv_sub hl [1, 2, 0] rfl)
        exact L41 (8 - (0 : Int32).toInt : Int).toNat.succ 0 _ _ hh_3 (by first | omega | (refine ⟨?_, ?_⟩ <;> (first | omega | rfl | assumption | decide | exact Or.inl rfl | exact Or.inr rfl | (simp only; omega)))) (by omega) _ (lv_sub hl [1, 2, 0] rfl)
      · skip
        have c_6' : v2_1.toInt < z_5.toInt := jb_ge_n (rfl) (rfl) c_6
        refine lv_aload_n hx hb dX13_printGoal_12 rfl (lv_at hl 0 rfl) ?_
        refine lv_aload_n hx hb dX13_printGoal_13 rfl (lv_at hl 0 rfl) ?_
        obtain ⟨v_33, hv_33, hh_34⟩ := hh_3.pin (C := RX13) (T := TX13) (N := 50) hB15 rfl (by decide) hg_r0 (i := 24) (by decide) rfl
        clear hh_3
        obtain ⟨varName_35, rfl, hg_varName_35⟩ := hv_33
        refine j7_read hx hb hown hK (C := RX13) (T := TX13) (N := 50) rfl hly_15_24 hlk_59 (hh_34.at 0 rfl) dX13_printGoal_14 ?_
        refine lv_bipush (v := 6) hx hb dX13_printGoal_17 (by decide) ?_
        refine lv_iload_n hx hb dX13_printGoal_19 rfl (lv_at hl 1 rfl) ?_
        refine lv_imul hx hb dX13_printGoal_20 ?_
        refine lv_topi (fun z_36 ez_36 => ?_)
        have hz_36 : z_36.toInt = 6 * a1.toInt := by rw [ez_36]; exact jb_imul2 ((by decide)) (rfl) (by omega)
        refine lv_iload_n hx hb dX13_printGoal_21 rfl (lv_at hl 2 rfl) ?_
        refine lv_iadd hx hb dX13_printGoal_22 ?_
        refine lv_topi (fun z_37 ez_37 => ?_)
        have hz_37 : z_37.toInt = z_36.toInt + v2_1.toInt := by rw [ez_37]; exact jb_iadd2 (rfl) (rfl) (by omega)
        refine j7_iald hx hb hK hh_34 hB163 1 rfl (by decide) hg_varName_35 (x := z_37.toInt) (rfl) (by omega) dX13_printGoal_23 (fun z_38 (hz_38 : 0 ≤ z_38.toInt ∧ z_38.toInt ≤ 1599) => ?_)
        refine va_callv (A0 := jA base) (H0 := s.heap) (va_runV (As := [.int z_38]) (rest := []) ⟨hx, hb, hml, hown, hts⟩ (uX13_putName l dC dI ca base B hB hAp hB15 hB101 hB155 hB156 hB166 G0 H_1 r0 z_38) (cwV 1 hts (jgV (jWr_70 _ (List.mem_of_getElem? (i := 19) rfl)) (jWr_70 _ (List.mem_of_getElem? (i := 3) rfl)) (jWr_70 _ (List.mem_of_getElem? (i := 4) rfl)) (jWr_12 _ (List.mem_of_getElem? (i := 12) rfl)) (jWr_70 _ (List.mem_of_getElem? (i := 5) rfl))) rfl rfl rfl (by decide +kernel) ⟨by rw [← hR]; exact Nat.le_of_ble_eq_true rfl, by rw [← hR]; exact Nat.le_of_ble_eq_true rfl⟩) ⟨fun a U g mk q => by obtain ⟨q0, q1, q2, qK, q10, q11, q12⟩ := q; exact ⟨q0, q1, q2, jG.calling g mk a qK, q10, q11, q12⟩, hh_34.recv (C := RX13) (T := TX13) (N := 50) hB15 rfl (by decide) hg_r0 hK, fun U hU hW => ⟨rfl, hU, hh_34.2.1, hG.step hW hU hh_34.1, hg_r0, jP.nil, by first | omega | (refine ⟨?_, ?_⟩ <;> (first | omega | rfl | assumption | decide | exact Or.inl rfl | exact Or.inr rfl | (simp only; omega)))⟩⟩ rfl rfl hl.1 rfl (lv_room (Nat.le_of_ble_eq_true rfl)) dX13_printGoal_24 ⟨Nat.zero_le _, Nat.zero_le _⟩) hh_34.1 (fun q _ h => h) (fun q h => h) (fun u_39 t_39 H_39 locs_39 ht_39 hvm_39 hr_40 hb_39 hz_39 hk_39 hS_39 => ?_)
        rw [ht_39] at hb_39
        obtain ⟨hb_391, hb_392, hb_393, hb_394, hb_395⟩ := hb_39
        have hh_39 : jSt (dC, dI) B base G0 G0 EX13_printGoal s.heap 0 0 [(r0, 15, 24, .ref varName_35), (r0, 15, 23, .ref vars_4), (r0, 15, 22, .ref zg), (r0, 15, 25, .ref zh), (r0, 15, 27, .ref zp), (r0, 15, 0, .ref zs), (r0, 15, 1, .ref zn), (r0, 15, 2, .ref za), (r0, 15, 3, .ref zb), (r0, 15, 4, .ref zc), (r0, 15, 14, .ref zy)] [(zg, 161, 46, ca 1, fg), (zh, 159, 46, ca 1, fh), (zp, 162, 368, ca 1, fp), (zs, 150, 120000, ca 1, C.s), (zn, 151, 120000, ca 1, C.n), (za, 152, 120000, ca 1, C.a), (zb, 153, 120000, ca 1, C.b), (zc, 154, 120000, ca 1, C.c), (zy, 165, 16, ca 1, C.y)] [] H_39 locs_39 := ((hh_34.call hb_391 hb_392 hb_393 hb_394 hS_39 rfl (L1 := [(r0, 15, 24, .ref varName_35), (r0, 15, 23, .ref vars_4), (r0, 15, 22, .ref zg), (r0, 15, 25, .ref zh), (r0, 15, 27, .ref zp), (r0, 15, 0, .ref zs), (r0, 15, 1, .ref zn), (r0, 15, 2, .ref za), (r0, 15, 3, .ref zb), (r0, 15, 4, .ref zc), (r0, 15, 14, .ref zy)]) [0, 1, 2, 3, 4, 5, 6, 7, 8, 9, 10] rfl rfl (M1 := [(zg, 161, 46, ca 1, fg), (zh, 159, 46, ca 1, fh), (zp, 162, 368, ca 1, fp), (zs, 150, 120000, ca 1, C.s), (zn, 151, 120000, ca 1, C.n), (za, 152, 120000, ca 1, C.a), (zb, 153, 120000, ca 1, C.b), (zc, 154, 120000, ca 1, C.c), (zy, 165, 16, ca 1, C.y)]) [0, 1, 2, 3, 4, 5, 6, 7, 8] rfl rfl (I1 := []) [] rfl rfl).more hb_395)
        clear hh_34 ht_39 hvm_39 hz_39 hk_39 hS_39 hb_391 hb_392 hb_393 hb_394 hb_395
        refine lv_aload_n hx hb dX13_printGoal_27 rfl (lv_at hl 0 rfl) ?_
        refine lv_bipush (v := 32) hx hb dX13_printGoal_28 (by decide) ?_
        refine va_callv (A0 := jA base) (H0 := s.heap) (va_runV (As := [.int 32]) (rest := []) ⟨hx, hb, hml, hown, hts⟩ (uX13_put l dC dI ca base B hB hAp hB15 hB101 G0 H_39 r0 32) (cwV 1 hts (jgV (jWr_70 _ (List.mem_of_getElem? (i := 6) rfl)) (jWr_70 _ (List.mem_of_getElem? (i := 7) rfl)) (jWr_70 _ (List.mem_of_getElem? (i := 8) rfl)) (jWr_12 _ (List.mem_of_getElem? (i := 12) rfl)) (jWr_70 _ (List.mem_of_getElem? (i := 9) rfl))) rfl rfl rfl (by decide +kernel) ⟨by rw [← hR]; exact Nat.le_of_ble_eq_true rfl, by rw [← hR]; exact Nat.le_of_ble_eq_true rfl⟩) ⟨fun a U g mk q => by obtain ⟨q0, q1, q2, qK, q10, q11, q12⟩ := q; exact ⟨q0, q1, q2, jG.calling g mk a qK, q10, q11, q12⟩, hh_39.recv (C := RX13) (T := TX13) (N := 50) hB15 rfl (by decide) hg_r0 hK, fun U hU hW => ⟨rfl, hU, hh_39.2.1, hG.step hW hU hh_39.1, hg_r0, jP.nil, trivial⟩⟩ rfl rfl hl.1 rfl (lv_room (Nat.le_of_ble_eq_true rfl)) dX13_printGoal_30 ⟨Nat.zero_le _, Nat.zero_le _⟩) hh_39.1 (fun q _ h => h) (fun q h => h) (fun u_41 t_41 H_41 locs_41 ht_41 hvm_41 hr_42 hb_41 hz_41 hk_41 hS_41 => ?_)
        rw [ht_41] at hb_41
        obtain ⟨hb_411, hb_412, hb_413, hb_414, hb_415⟩ := hb_41
        have hh_41 : jSt (dC, dI) B base G0 G0 EX13_printGoal s.heap 0 0 [(r0, 15, 24, .ref varName_35), (r0, 15, 23, .ref vars_4), (r0, 15, 22, .ref zg), (r0, 15, 25, .ref zh), (r0, 15, 27, .ref zp), (r0, 15, 0, .ref zs), (r0, 15, 1, .ref zn), (r0, 15, 2, .ref za), (r0, 15, 3, .ref zb), (r0, 15, 4, .ref zc), (r0, 15, 14, .ref zy)] [(zg, 161, 46, ca 1, fg), (zh, 159, 46, ca 1, fh), (zp, 162, 368, ca 1, fp), (zs, 150, 120000, ca 1, C.s), (zn, 151, 120000, ca 1, C.n), (za, 152, 120000, ca 1, C.a), (zb, 153, 120000, ca 1, C.b), (zc, 154, 120000, ca 1, C.c), (zy, 165, 16, ca 1, C.y)] [] H_41 locs_41 := ((hh_39.call hb_411 hb_412 hb_413 hb_414 hS_41 rfl (L1 := [(r0, 15, 24, .ref varName_35), (r0, 15, 23, .ref vars_4), (r0, 15, 22, .ref zg), (r0, 15, 25, .ref zh), (r0, 15, 27, .ref zp), (r0, 15, 0, .ref zs), (r0, 15, 1, .ref zn), (r0, 15, 2, .ref za), (r0, 15, 3, .ref zb), (r0, 15, 4, .ref zc), (r0, 15, 14, .ref zy)]) [0, 1, 2, 3, 4, 5, 6, 7, 8, 9, 10] rfl rfl (M1 := [(zg, 161, 46, ca 1, fg), (zh, 159, 46, ca 1, fh), (zp, 162, 368, ca 1, fp), (zs, 150, 120000, ca 1, C.s), (zn, 151, 120000, ca 1, C.n), (za, 152, 120000, ca 1, C.a), (zb, 153, 120000, ca 1, C.b), (zc, 154, 120000, ca 1, C.c), (zy, 165, 16, ca 1, C.y)]) [0, 1, 2, 3, 4, 5, 6, 7, 8] rfl rfl (I1 := []) [] rfl rfl).more hb_415)
        clear hh_39 ht_41 hvm_41 hz_41 hk_41 hS_41 hb_411 hb_412 hb_413 hb_414 hb_415
        obtain ⟨z_43, ez_43⟩ : ∃ y : Int32, y = v2_1 + 1 := ⟨_, rfl⟩
        refine lv_iinc (v := z_43) (lv' := [(2, .int z_43), (0, .ref r0), (1, .int a1)]) hx hb dX13_printGoal_33 hl (k := 2) rfl (by rw [ez_43]; rfl) (by decide) rfl (fun ls hl => ?_)
        have hz_43 : z_43.toInt = v2_1.toInt + 1 := by rw [ez_43]; exact jb_iadd2 (rfl) (by decide) (by omega)
        refine lv_goto (tgt := 2) hx hb dX13_printGoal_36 (by decide) ?_
        exact L2 z_43 _ _ (hh_41.sub (L1 := [(r0, 15, 22, .ref zg), (r0, 15, 25, .ref zh), (r0, 15, 27, .ref zp), (r0, 15, 0, .ref zs), (r0, 15, 1, .ref zn), (r0, 15, 2, .ref za), (r0, 15, 3, .ref zb), (r0, 15, 4, .ref zc), (r0, 15, 14, .ref zy)]) [2, 3, 4, 5, 6, 7, 8, 9, 10] rfl (M1 := [(zg, 161, 46, ca 1, fg), (zh, 159, 46, ca 1, fh), (zp, 162, 368, ca 1, fp), (zs, 150, 120000, ca 1, C.s), (zn, 151, 120000, ca 1, C.n), (za, 152, 120000, ca 1, C.a), (zb, 153, 120000, ca 1, C.b), (zc, 154, 120000, ca 1, C.c), (zy, 165, 16, ca 1, C.y)]) [0, 1, 2, 3, 4, 5, 6, 7, 8] rfl (I1 := []) [] rfl) (by first | omega | (refine ⟨?_, ?_⟩ <;> (first | omega | rfl | assumption | decide | exact Or.inl rfl | exact Or.inr rfl | (simp only; omega)))) (by omega) _ (lv_sub hl [1, 2, 0] rfl)
  exact L2 (6 - (0 : Int32).toInt : Int).toNat.succ 0 _ _ hh (by first | omega | (refine ⟨?_, ?_⟩ <;> (first | omega | rfl | assumption | decide | exact Or.inl rfl | exact Or.inr rfl | (simp only; omega)))) (by omega) _ (lv_sub hl [1, 2, 0] rfl)
end
section
def EX14_isBlankK : List (Nat × Nat) := []
set_option maxHeartbeats 4000000 in
set_option maxRecDepth 20000 in
theorem uX14_isBlankK (l : Launch) (dC : Nat → ClassId) (dI : Nat → Nat → Nat) (ca : Nat → ClassId) (base : Nat) (B : jF) (hB : jBok B) (hAp : jAp (dC, dI)) (G0 : jT) (H0 : Heap) (a0 : Int32) : Met l yX14_isBlank (jw yX14_isBlank cX14_isBlank 1 (some .boolean)) ({ frames := 0, cells := 0, slots := 0, locals := 0 }) (va_Pc [.int a0] (fun U => U.heap = H0 ∧ jX B base G0 [] H0 ∧ jG dC dI ca base U ∧ jP (dC, dI) G0 H0 [] ∧ True)) (va_Qi (S := Unit) (fun r u => (r = 0 ∨ r = 1) ∧ (r.toInt = jBlk a0.toInt)) (fun u t => jRt (dC, dI) B base G0 EX14_isBlankK H0 [] t.heap) (jA base)) 0 0 (jA base) := by
  refine Met.ofW (cc := cX14_isBlank) (maxL := 1) (ret := (some .boolean)) (by decide) rfl ?_
  intro p e s m args below meth c s₁ Bd hml hv
  obtain ⟨rfl, hH0, hX, hG, hP0, hp0⟩ := hv
  have hK := hG.1
  have hx := Bd.exec
  have hb := Bd.bytes
  have hr := Bd.returns
  have hts := atoms_spec (ws := (jw yX14_isBlank cX14_isBlank 1 (some .boolean))) Bd.pre
  have htw : ∀ w ∈ jWl, w.before _ s = true := fun w h => hts w (List.mem_cons_of_mem _ h)
  have hown : s.vm.findClass RX14 = some m.cls := findClass_of_methodNamed Bd.named
  have hlocks := Bd.notSynchronized
  obtain ⟨Q, hQ⟩ : ∃ Q, Q = MQ below (va_Qi (S := Unit) (fun r u => (r = 0 ∨ r = 1) ∧ (r.toInt = jBlk a0.toInt)) (fun u t => jRt (dC, dI) B base G0 EX14_isBlankK H0 [] t.heap) (jA base)) ([.int a0] : List Value).toArray s 0 0 (jA base) := ⟨_, rfl⟩
  rw [← hQ]
  have hl := lv_entry ([.int a0]) (n := 1) (Nat.le_of_ble_eq_true rfl)
  rw [lg_entry_eq]
  generalize (lg_sl ([.int a0]) ++ List.replicate (1 - (lg_sl ([.int a0])).length) Slot.unset).toArray = ls at hl ⊢
  have hl : lv_has ls 1 [(0, .int a0)] := hl
  generalize hR : (headSpec (jw yX14_isBlank cX14_isBlank 1 (some .boolean)) ({ frames := 0, cells := 0, slots := 0, locals := 0 })).room = R
  subst hH0
  have hh : jSt (dC, dI) B base G0 G0 EX14_isBlankK s.heap 0 0 [] [] [] s.heap [] := jSt.start hX hP0 jMc.nil jIs.nil
  clear hX hP0
  have hk0 : (0 : Int32).toInt = 0 := by decide
  have hk1 : (1 : Int32).toInt = 1 := by decide
  have hk9 : (9 : Int32).toInt = 9 := by decide
  have hk10 : (10 : Int32).toInt = 10 := by decide
  have hk13 : (13 : Int32).toInt = 13 := by decide
  have hk32 : (32 : Int32).toInt = 32 := by decide
  have hrg_a0 := jb_rng a0
  refine lv_iload_n hx hb dX14_isBlank_0 rfl (lv_at hl 0 rfl) ?_
  refine lv_bipush (v := 32) hx hb dX14_isBlank_1 (by decide) ?_
  refine lv_icmp_eq (tgt := 24) hx hb dX14_isBlank_3 (by decide) (fun c_1 => ?_) (fun c_1 => ?_)
  · skip
    have c_1' : a0.toInt = 32 := jb_eq (rfl) ((by decide)) c_1
    refine lv_iconst (v := 1) hx hb dX14_isBlank_24 (by decide) ?_
    refine lv_goto (tgt := 29) hx hb dX14_isBlank_25 (by decide) ?_
    rw [hQ]
    exact W.zret (v := 1) hx hb hr (jb_nz (Or.inr rfl)) (fun t ht hW => ⟨⟨1, (), rfl, ⟨(Or.inr rfl), by unfold jBlk; first | (rw [if_pos (by omega)]; exact hk1) | (rw [if_neg (by omega)]; exact hk0)⟩, hh.rt (M1 := []) [] rfl ht⟩, by rw [ht]; try exact hh.1.1, fun q h9 hq => by rw [ht]; try exact hh.1.2.1 q h9 hq⟩) hh.1.2.2 dX14_isBlank_29
  · skip
    have c_1' : a0.toInt ≠ 32 := jb_eq_n (rfl) ((by decide)) c_1
    refine lv_iload_n hx hb dX14_isBlank_6 rfl (lv_at hl 0 rfl) ?_
    refine lv_bipush (v := 9) hx hb dX14_isBlank_7 (by decide) ?_
    refine lv_icmp_eq (tgt := 24) hx hb dX14_isBlank_9 (by decide) (fun c_2 => ?_) (fun c_2 => ?_)
    · skip
      have c_2' : a0.toInt = 9 := jb_eq (rfl) ((by decide)) c_2
      refine lv_iconst (v := 1) hx hb dX14_isBlank_24 (by decide) ?_
      refine lv_goto (tgt := 29) hx hb dX14_isBlank_25 (by decide) ?_
      rw [hQ]
      exact W.zret (v := 1) hx hb hr (jb_nz (Or.inr rfl)) (fun t ht hW => ⟨⟨1, (), rfl, ⟨(Or.inr rfl), by unfold jBlk; first | (rw [if_pos (by omega)]; exact hk1) | (rw [if_neg (by omega)]; exact hk0)⟩, hh.rt (M1 := []) [] rfl ht⟩, by rw [ht]; try exact hh.1.1, fun q h9 hq => by rw [ht]; try exact hh.1.2.1 q h9 hq⟩) hh.1.2.2 dX14_isBlank_29
    · skip
      have c_2' : a0.toInt ≠ 9 := jb_eq_n (rfl) ((by decide)) c_2
      refine lv_iload_n hx hb dX14_isBlank_12 rfl (lv_at hl 0 rfl) ?_
      refine lv_bipush (v := 10) hx hb dX14_isBlank_13 (by decide) ?_
      refine lv_icmp_eq (tgt := 24) hx hb dX14_isBlank_15 (by decide) (fun c_3 => ?_) (fun c_3 => ?_)
      · skip
        have c_3' : a0.toInt = 10 := jb_eq (rfl) ((by decide)) c_3
        refine lv_iconst (v := 1) hx hb dX14_isBlank_24 (by decide) ?_
        refine lv_goto (tgt := 29) hx hb dX14_isBlank_25 (by decide) ?_
        rw [hQ]
        exact W.zret (v := 1) hx hb hr (jb_nz (Or.inr rfl)) (fun t ht hW => ⟨⟨1, (), rfl, ⟨(Or.inr rfl), by unfold jBlk; first | (rw [if_pos (by omega)]; exact hk1) | (rw [if_neg (by omega)]; exact hk0)⟩, hh.rt (M1 := []) [] rfl ht⟩, by rw [ht]; try exact hh.1.1, fun q h9 hq => by rw [ht]; try exact hh.1.2.1 q h9 hq⟩) hh.1.2.2 dX14_isBlank_29
      · skip
        have c_3' : a0.toInt ≠ 10 := jb_eq_n (rfl) ((by decide)) c_3
        refine lv_iload_n hx hb dX14_isBlank_18 rfl (lv_at hl 0 rfl) ?_
        refine lv_bipush (v := 13) hx hb dX14_isBlank_19 (by decide) ?_
        refine lv_icmp_ne (tgt := 28) hx hb dX14_isBlank_21 (by decide) (fun c_4 => ?_) (fun c_4 => ?_)
        · skip
          have c_4' : a0.toInt ≠ 13 := jb_ne (rfl) ((by decide)) c_4
          refine lv_iconst (v := 0) hx hb dX14_isBlank_28 (by decide) ?_
          rw [hQ]
          exact W.zret (v := 0) hx hb hr (jb_nz (Or.inl rfl)) (fun t ht hW => ⟨⟨0, (), rfl, ⟨(Or.inl rfl), by unfold jBlk; first | (rw [if_pos (by omega)]; exact hk1) | (rw [if_neg (by omega)]; exact hk0)⟩, hh.rt (M1 := []) [] rfl ht⟩, by rw [ht]; try exact hh.1.1, fun q h9 hq => by rw [ht]; try exact hh.1.2.1 q h9 hq⟩) hh.1.2.2 dX14_isBlank_29
        · skip
          have c_4' : a0.toInt = 13 := jb_ne_n (rfl) ((by decide)) c_4
          refine lv_iconst (v := 1) hx hb dX14_isBlank_24 (by decide) ?_
          refine lv_goto (tgt := 29) hx hb dX14_isBlank_25 (by decide) ?_
          rw [hQ]
          exact W.zret (v := 1) hx hb hr (jb_nz (Or.inr rfl)) (fun t ht hW => ⟨⟨1, (), rfl, ⟨(Or.inr rfl), by unfold jBlk; first | (rw [if_pos (by omega)]; exact hk1) | (rw [if_neg (by omega)]; exact hk0)⟩, hh.rt (M1 := []) [] rfl ht⟩, by rw [ht]; try exact hh.1.1, fun q h9 hq => by rw [ht]; try exact hh.1.2.1 q h9 hq⟩) hh.1.2.2 dX14_isBlank_29
end
section
theorem dX14_takeRow_0 : decode cX14_takeRow 0 = .ok (.aload_n 0, 1) := by decide +kernel
theorem dX14_takeRow_1 : decode cX14_takeRow 1 = .ok (.iconst 0, 1) := by decide +kernel
theorem dX14_takeRow_2 : decode cX14_takeRow 2 = .ok (.putfield 766, 3) := by decide +kernel
theorem dX14_takeRow_5 : decode cX14_takeRow 5 = .ok (.iconst 0, 1) := by decide +kernel
theorem dX14_takeRow_6 : decode cX14_takeRow 6 = .ok (.istore_n 3, 1) := by decide +kernel
theorem dX14_takeRow_7 : decode cX14_takeRow 7 = .ok (.iload_n 3, 1) := by decide +kernel
theorem dX14_takeRow_8 : decode cX14_takeRow 8 = .ok (.iload_n 2, 1) := by decide +kernel
theorem dX14_takeRow_9 : decode cX14_takeRow 9 = .ok (.if_icmp .gt 80, 3) := by decide +kernel
theorem dX14_takeRow_12 : decode cX14_takeRow 12 = .ok (.aload_n 1, 1) := by decide +kernel
theorem dX14_takeRow_13 : decode cX14_takeRow 13 = .ok (.getfield 596, 3) := by decide +kernel
theorem dX14_takeRow_16 : decode cX14_takeRow 16 = .ok (.iload_n 3, 1) := by decide +kernel
theorem dX14_takeRow_17 : decode cX14_takeRow 17 = .ok (.iaload, 1) := by decide +kernel
theorem dX14_takeRow_18 : decode cX14_takeRow 18 = .ok (.istore 4, 2) := by decide +kernel
theorem dX14_takeRow_20 : decode cX14_takeRow 20 = .ok (.iload 4, 2) := by decide +kernel
theorem dX14_takeRow_22 : decode cX14_takeRow 22 = .ok (.aload_n 1, 1) := by decide +kernel
theorem dX14_takeRow_23 : decode cX14_takeRow 23 = .ok (.getfield 594, 3) := by decide +kernel
theorem dX14_takeRow_26 : decode cX14_takeRow 26 = .ok (.iload_n 3, 1) := by decide +kernel
theorem dX14_takeRow_27 : decode cX14_takeRow 27 = .ok (.iaload, 1) := by decide +kernel
theorem dX14_takeRow_28 : decode cX14_takeRow 28 = .ok (.if_icmp .ge 35, 3) := by decide +kernel
theorem dX14_takeRow_31 : decode cX14_takeRow 31 = .ok (.aload_n 0, 1) := by decide +kernel
theorem dX14_takeRow_32 : decode cX14_takeRow 32 = .ok (.getfield 148, 3) := by decide +kernel
theorem dX14_takeRow_35 : decode cX14_takeRow 35 = .ok (.aload_n 0, 1) := by decide +kernel
theorem dX14_takeRow_36 : decode cX14_takeRow 36 = .ok (.getfield 766, 3) := by decide +kernel
theorem dX14_takeRow_39 : decode cX14_takeRow 39 = .ok (.aload_n 1, 1) := by decide +kernel
theorem dX14_takeRow_40 : decode cX14_takeRow 40 = .ok (.getfield 529, 3) := by decide +kernel
theorem dX14_takeRow_43 : decode cX14_takeRow 43 = .ok (.iload 4, 2) := by decide +kernel
theorem dX14_takeRow_45 : decode cX14_takeRow 45 = .ok (.iaload, 1) := by decide +kernel
theorem dX14_takeRow_46 : decode cX14_takeRow 46 = .ok (.iastore, 1) := by decide +kernel
theorem dX14_takeRow_47 : decode cX14_takeRow 47 = .ok (.aload_n 0, 1) := by decide +kernel
theorem dX14_takeRow_48 : decode cX14_takeRow 48 = .ok (.dup, 1) := by decide +kernel
theorem dX14_takeRow_49 : decode cX14_takeRow 49 = .ok (.getfield 766, 3) := by decide +kernel
theorem dX14_takeRow_52 : decode cX14_takeRow 52 = .ok (.iconst 1, 1) := by decide +kernel
theorem dX14_takeRow_53 : decode cX14_takeRow 53 = .ok (.iadd, 1) := by decide +kernel
theorem dX14_takeRow_54 : decode cX14_takeRow 54 = .ok (.putfield 766, 3) := by decide +kernel
theorem dX14_takeRow_57 : decode cX14_takeRow 57 = .ok (.iinc 4 1, 3) := by decide +kernel
theorem dX14_takeRow_60 : decode cX14_takeRow 60 = .ok (.goto (-40), 3) := by decide +kernel
theorem dX14_takeRow_63 : decode cX14_takeRow 63 = .ok (.aload_n 0, 1) := by decide +kernel
theorem dX14_takeRow_64 : decode cX14_takeRow 64 = .ok (.getfield 148, 3) := by decide +kernel
theorem dX14_takeRow_67 : decode cX14_takeRow 67 = .ok (.aload_n 0, 1) := by decide +kernel
theorem dX14_takeRow_68 : decode cX14_takeRow 68 = .ok (.getfield 766, 3) := by decide +kernel
theorem dX14_takeRow_71 : decode cX14_takeRow 71 = .ok (.iconst (-1), 1) := by decide +kernel
theorem dX14_takeRow_72 : decode cX14_takeRow 72 = .ok (.iastore, 1) := by decide +kernel
theorem dX14_takeRow_73 : decode cX14_takeRow 73 = .ok (.aload_n 0, 1) := by decide +kernel
theorem dX14_takeRow_74 : decode cX14_takeRow 74 = .ok (.dup, 1) := by decide +kernel
theorem dX14_takeRow_75 : decode cX14_takeRow 75 = .ok (.getfield 766, 3) := by decide +kernel
theorem dX14_takeRow_78 : decode cX14_takeRow 78 = .ok (.iconst 1, 1) := by decide +kernel
theorem dX14_takeRow_79 : decode cX14_takeRow 79 = .ok (.iadd, 1) := by decide +kernel
theorem dX14_takeRow_80 : decode cX14_takeRow 80 = .ok (.putfield 766, 3) := by decide +kernel
theorem dX14_takeRow_83 : decode cX14_takeRow 83 = .ok (.iinc 3 1, 3) := by decide +kernel
theorem dX14_takeRow_86 : decode cX14_takeRow 86 = .ok (.goto (-79), 3) := by decide +kernel
theorem dX14_takeRow_89 : decode cX14_takeRow 89 = .ok (.return_, 1) := by decide +kernel
theorem dX14_costOf_0 : decode cX14_costOf 0 = .ok (.aload_n 0, 1) := by decide +kernel
theorem dX14_costOf_1 : decode cX14_costOf 1 = .ok (.getfield 122, 3) := by decide +kernel
theorem dX14_costOf_4 : decode cX14_costOf 4 = .ok (.invokevirtual 627, 3) := by decide +kernel
theorem dX14_costOf_7 : decode cX14_costOf 7 = .ok (.aload_n 0, 1) := by decide +kernel
theorem dX14_costOf_8 : decode cX14_costOf 8 = .ok (.getfield 122, 3) := by decide +kernel
theorem dX14_costOf_11 : decode cX14_costOf 11 = .ok (.aload_n 1, 1) := by decide +kernel
theorem dX14_costOf_12 : decode cX14_costOf 12 = .ok (.getfield 529, 3) := by decide +kernel
theorem dX14_costOf_15 : decode cX14_costOf 15 = .ok (.aload_n 1, 1) := by decide +kernel
theorem dX14_costOf_16 : decode cX14_costOf 16 = .ok (.getfield 596, 3) := by decide +kernel
theorem dX14_costOf_19 : decode cX14_costOf 19 = .ok (.iload_n 2, 1) := by decide +kernel
theorem dX14_costOf_20 : decode cX14_costOf 20 = .ok (.iaload, 1) := by decide +kernel
theorem dX14_costOf_21 : decode cX14_costOf 21 = .ok (.aload_n 1, 1) := by decide +kernel
theorem dX14_costOf_22 : decode cX14_costOf 22 = .ok (.getfield 594, 3) := by decide +kernel
theorem dX14_costOf_25 : decode cX14_costOf 25 = .ok (.iload_n 2, 1) := by decide +kernel
theorem dX14_costOf_26 : decode cX14_costOf 26 = .ok (.iaload, 1) := by decide +kernel
theorem dX14_costOf_27 : decode cX14_costOf 27 = .ok (.aload_n 1, 1) := by decide +kernel
theorem dX14_costOf_28 : decode cX14_costOf 28 = .ok (.getfield 599, 3) := by decide +kernel
theorem dX14_costOf_31 : decode cX14_costOf 31 = .ok (.iload_n 2, 1) := by decide +kernel
theorem dX14_costOf_32 : decode cX14_costOf 32 = .ok (.iaload, 1) := by decide +kernel
theorem dX14_costOf_33 : decode cX14_costOf 33 = .ok (.invokevirtual 779, 3) := by decide +kernel
theorem dX14_costOf_36 : decode cX14_costOf 36 = .ok (.ireturn, 1) := by decide +kernel
def EX13_beginK : List (Nat × Nat) := [(15, 5), (15, 7), (15, 10), (15, 11), (15, 15), (15, 18), (15, 21)]
set_option maxHeartbeats 4000000 in
set_option maxRecDepth 20000 in
theorem uX13_beginK (l : Launch) (dC : Nat → ClassId) (dI : Nat → Nat → Nat) (ca : Nat → ClassId) (base : Nat) (B : jF) (hB : jBok B) (hAp : jAp (dC, dI)) (hB15 : ∀ n G a H, B 15 n G a H ↔ jOb (dC, dI) 15 50 (F15 n G) a H) (G0 : jT) (H0 : Heap) (r0 : Nat) : Met l yX13_begin (jw yX13_begin cX13_begin 1 none) ({ frames := 0, cells := 0, slots := 0, locals := 0 }) (va_Pc [.ref r0] (fun U => U.heap = H0 ∧ jX B base G0 [] H0 ∧ jG dC dI ca base U ∧ G0 r0 = some (15, 0) ∧ jP (dC, dI) G0 H0 [] ∧ True)) (va_Qv (S := Int32 × Int32 × Int32 × Int32 × Int32 × Int32 × Int32) (fun u => u.1.toInt = 0 ∧ u.2.1.toInt = 0 ∧ u.2.2.1.toInt = 0 ∧ u.2.2.2.1.toInt = 0 ∧ u.2.2.2.2.1.toInt = 0 ∧ u.2.2.2.2.2.1.toInt = 0 ∧ u.2.2.2.2.2.2.toInt = 0) (fun u t => jRt (dC, dI) B base G0 EX13_beginK H0 [(r0, 15, 5, .int u.1), (r0, 15, 11, .int u.2.1), (r0, 15, 15, .int u.2.2.1), (r0, 15, 21, .int u.2.2.2.1), (r0, 15, 18, .int u.2.2.2.2.1), (r0, 15, 10, .int u.2.2.2.2.2.1), (r0, 15, 7, .int u.2.2.2.2.2.2)] t.heap) (jA base)) 0 0 (jA base) := by
  refine Met.ofW (cc := cX13_begin) (maxL := 1) (ret := none) (by decide) rfl ?_
  intro p e s m args below meth c s₁ Bd hml hv
  obtain ⟨rfl, hH0, hX, hG, hg_r0, hP0, hp0⟩ := hv
  have hK := hG.1
  have hx := Bd.exec
  have hb := Bd.bytes
  have hr := Bd.returns
  have hts := atoms_spec (ws := (jw yX13_begin cX13_begin 1 none)) Bd.pre
  have htw : ∀ w ∈ jWl, w.before _ s = true := fun w h => hts w (List.mem_cons_of_mem _ h)
  have hown : s.vm.findClass RX13 = some m.cls := findClass_of_methodNamed Bd.named
  have hlocks := Bd.notSynchronized
  obtain ⟨Q, hQ⟩ : ∃ Q, Q = MQ below (va_Qv (S := Int32 × Int32 × Int32 × Int32 × Int32 × Int32 × Int32) (fun u => u.1.toInt = 0 ∧ u.2.1.toInt = 0 ∧ u.2.2.1.toInt = 0 ∧ u.2.2.2.1.toInt = 0 ∧ u.2.2.2.2.1.toInt = 0 ∧ u.2.2.2.2.2.1.toInt = 0 ∧ u.2.2.2.2.2.2.toInt = 0) (fun u t => jRt (dC, dI) B base G0 EX13_beginK H0 [(r0, 15, 5, .int u.1), (r0, 15, 11, .int u.2.1), (r0, 15, 15, .int u.2.2.1), (r0, 15, 21, .int u.2.2.2.1), (r0, 15, 18, .int u.2.2.2.2.1), (r0, 15, 10, .int u.2.2.2.2.2.1), (r0, 15, 7, .int u.2.2.2.2.2.2)] t.heap) (jA base)) ([.ref r0] : List Value).toArray s 0 0 (jA base) := ⟨_, rfl⟩
  rw [← hQ]
  have hl := lv_entry ([.ref r0]) (n := 1) (Nat.le_of_ble_eq_true rfl)
  rw [lg_entry_eq]
  generalize (lg_sl ([.ref r0]) ++ List.replicate (1 - (lg_sl ([.ref r0])).length) Slot.unset).toArray = ls at hl ⊢
  have hl : lv_has ls 1 [(0, .ref r0)] := hl
  generalize hR : (headSpec (jw yX13_begin cX13_begin 1 none) ({ frames := 0, cells := 0, slots := 0, locals := 0 })).room = R
  subst hH0
  have hh : jSt (dC, dI) B base G0 G0 EX13_beginK s.heap 0 0 [] [] [] s.heap [] := jSt.start hX hP0 jMc.nil jIs.nil
  clear hX hP0
  have hk0 : (0 : Int32).toInt = 0 := by decide
  have hk1 : (1 : Int32).toInt = 1 := by decide
  have hly_15_5 := htw (u_lay RX13 TX13 5) (jWc_wsX130 _ (u_in_lay (by decide)))
  have hly_15_7 := htw (u_lay RX13 TX13 7) (jWc_wsX130 _ (u_in_lay (by decide)))
  have hly_15_10 := htw (u_lay RX13 TX13 10) (jWc_wsX130 _ (u_in_lay (by decide)))
  have hly_15_11 := htw (u_lay RX13 TX13 11) (jWc_wsX130 _ (u_in_lay (by decide)))
  have hly_15_15 := htw (u_lay RX13 TX13 15) (jWc_wsX130 _ (u_in_lay (by decide)))
  have hly_15_18 := htw (u_lay RX13 TX13 18) (jWc_wsX130 _ (u_in_lay (by decide)))
  have hly_15_21 := htw (u_lay RX13 TX13 21) (jWc_wsX130 _ (u_in_lay (by decide)))
  have hlk_99 := (htw (.fieldLink RX13 99 "ProofServerModel$Kernel" "nodes" "I") (jWr_59 _ (List.mem_of_getElem? (i := 14) rfl)))
  have hlk_103 := (htw (.fieldLink RX13 103 "ProofServerModel$Kernel" "nameCount" "I") (jWr_59 _ (List.mem_of_getElem? (i := 15) rfl)))
  have hlk_106 := (htw (.fieldLink RX13 106 "ProofServerModel$Kernel" "signCount" "I") (jWr_59 _ (List.mem_of_getElem? (i := 16) rfl)))
  have hlk_109 := (htw (.fieldLink RX13 109 "ProofServerModel$Kernel" "symbols" "I") (jWr_59 _ (List.mem_of_getElem? (i := 17) rfl)))
  have hlk_112 := (htw (.fieldLink RX13 112 "ProofServerModel$Kernel" "facts" "I") (jWr_59 _ (List.mem_of_getElem? (i := 18) rfl)))
  have hlk_115 := (htw (.fieldLink RX13 115 "ProofServerModel$Kernel" "proof" "Z") (jWr_59 _ (List.mem_of_getElem? (i := 19) rfl)))
  have hlk_119 := (htw (.fieldLink RX13 119 "ProofServerModel$Kernel" "goals" "I") (jWr_59 _ (List.mem_of_getElem? (i := 20) rfl)))
  refine lv_aload_n hx hb dX13_begin_0 rfl (lv_at hl 0 rfl) ?_
  refine lv_iconst (v := 0) hx hb dX13_begin_1 (by decide) ?_
  refine j7_put hx hb hown hK hh hB hAp hB15 (C := RX13) (T := TX13) (N := 50) rfl (by decide) hg_r0 (i := 5) (by decide) hly_15_5 rfl hlk_99 rfl (ty := .int) (v := .int 0) (by decide +kernel) rfl rfl (⟨_, rfl, by omega, by omega⟩) rfl (L1 := []) [] rfl rfl rfl dX13_begin_2 (fun H_1 locs_1 hh_1 => ?_)
  clear hh
  refine lv_aload_n hx hb dX13_begin_5 rfl (lv_at hl 0 rfl) ?_
  refine lv_iconst (v := 0) hx hb dX13_begin_6 (by decide) ?_
  refine j7_put hx hb hown hK hh_1 hB hAp hB15 (C := RX13) (T := TX13) (N := 50) rfl (by decide) hg_r0 (i := 10) (by decide) hly_15_10 rfl hlk_103 rfl (ty := .int) (v := .int 0) (by decide +kernel) rfl rfl (⟨_, rfl, by omega, by omega⟩) rfl (L1 := [(r0, 15, 5, .int 0)]) [0] rfl rfl rfl dX13_begin_7 (fun H_2 locs_2 hh_2 => ?_)
  clear hh_1
  refine lv_aload_n hx hb dX13_begin_10 rfl (lv_at hl 0 rfl) ?_
  refine lv_iconst (v := 0) hx hb dX13_begin_11 (by decide) ?_
  refine j7_put hx hb hown hK hh_2 hB hAp hB15 (C := RX13) (T := TX13) (N := 50) rfl (by decide) hg_r0 (i := 7) (by decide) hly_15_7 rfl hlk_106 rfl (ty := .int) (v := .int 0) (by decide +kernel) rfl rfl (⟨_, rfl, by omega, by omega⟩) rfl (L1 := [(r0, 15, 10, .int 0), (r0, 15, 5, .int 0)]) [0, 1] rfl rfl rfl dX13_begin_12 (fun H_3 locs_3 hh_3 => ?_)
  clear hh_2
  refine lv_aload_n hx hb dX13_begin_15 rfl (lv_at hl 0 rfl) ?_
  refine lv_iconst (v := 0) hx hb dX13_begin_16 (by decide) ?_
  refine j7_put hx hb hown hK hh_3 hB hAp hB15 (C := RX13) (T := TX13) (N := 50) rfl (by decide) hg_r0 (i := 11) (by decide) hly_15_11 rfl hlk_109 rfl (ty := .int) (v := .int 0) (by decide +kernel) rfl rfl (⟨_, rfl, by omega, by omega⟩) rfl (L1 := [(r0, 15, 7, .int 0), (r0, 15, 10, .int 0), (r0, 15, 5, .int 0)]) [0, 1, 2] rfl rfl rfl dX13_begin_17 (fun H_4 locs_4 hh_4 => ?_)
  clear hh_3
  refine lv_aload_n hx hb dX13_begin_20 rfl (lv_at hl 0 rfl) ?_
  refine lv_iconst (v := 0) hx hb dX13_begin_21 (by decide) ?_
  refine j7_put hx hb hown hK hh_4 hB hAp hB15 (C := RX13) (T := TX13) (N := 50) rfl (by decide) hg_r0 (i := 15) (by decide) hly_15_15 rfl hlk_112 rfl (ty := .int) (v := .int 0) (by decide +kernel) rfl rfl (⟨_, rfl, by omega, by omega⟩) rfl (L1 := [(r0, 15, 11, .int 0), (r0, 15, 7, .int 0), (r0, 15, 10, .int 0), (r0, 15, 5, .int 0)]) [0, 1, 2, 3] rfl rfl rfl dX13_begin_22 (fun H_5 locs_5 hh_5 => ?_)
  clear hh_4
  refine lv_aload_n hx hb dX13_begin_25 rfl (lv_at hl 0 rfl) ?_
  refine lv_iconst (v := 0) hx hb dX13_begin_26 (by decide) ?_
  refine j7_put hx hb hown hK hh_5 hB hAp hB15 (C := RX13) (T := TX13) (N := 50) rfl (by decide) hg_r0 (i := 18) (by decide) hly_15_18 rfl hlk_115 rfl (ty := .boolean) (v := .int 0) (by decide +kernel) (jb_nz (Or.inl rfl)) (jb_fz (Or.inl rfl)) (⟨_, rfl, (Or.inl rfl)⟩) rfl (L1 := [(r0, 15, 15, .int 0), (r0, 15, 11, .int 0), (r0, 15, 7, .int 0), (r0, 15, 10, .int 0), (r0, 15, 5, .int 0)]) [0, 1, 2, 3, 4] rfl rfl rfl dX13_begin_27 (fun H_6 locs_6 hh_6 => ?_)
  clear hh_5
  refine lv_aload_n hx hb dX13_begin_30 rfl (lv_at hl 0 rfl) ?_
  refine lv_iconst (v := 0) hx hb dX13_begin_31 (by decide) ?_
  refine j7_put hx hb hown hK hh_6 hB hAp hB15 (C := RX13) (T := TX13) (N := 50) rfl (by decide) hg_r0 (i := 21) (by decide) hly_15_21 rfl hlk_119 rfl (ty := .int) (v := .int 0) (by decide +kernel) rfl rfl (⟨_, rfl, by omega, by omega⟩) rfl (L1 := [(r0, 15, 18, .int 0), (r0, 15, 15, .int 0), (r0, 15, 11, .int 0), (r0, 15, 7, .int 0), (r0, 15, 10, .int 0), (r0, 15, 5, .int 0)]) [0, 1, 2, 3, 4, 5] rfl rfl rfl dX13_begin_32 (fun H_7 locs_7 hh_7 => ?_)
  clear hh_6
  rw [hQ]
  exact W.vret hx hb hr (fun t ht hW => ⟨⟨(0, 0, 0, 0, 0, 0, 0), rfl, by (try dsimp only); first | omega | (refine ⟨?_, ?_, ?_, ?_, ?_, ?_, ?_⟩ <;> (first | omega | rfl | assumption | decide | exact Or.inl rfl | exact Or.inr rfl | (simp only; omega))), hh_7.rt (M1 := [(r0, 15, 5, .int 0), (r0, 15, 11, .int 0), (r0, 15, 15, .int 0), (r0, 15, 21, .int 0), (r0, 15, 18, .int 0), (r0, 15, 10, .int 0), (r0, 15, 7, .int 0)]) [6, 3, 2, 0, 1, 5, 4] rfl ht⟩, by rw [ht]; try exact hh_7.1.1, fun q h9 hq => by rw [ht]; try exact hh_7.1.2.1 q h9 hq⟩) hh_7.1.2.2 dX13_begin_35
end
section
theorem dX14_reach_0 : decode cX14_reach 0 = .ok (.aload_n 0, 1) := by decide +kernel
theorem dX14_reach_1 : decode cX14_reach 1 = .ok (.getfield 122, 3) := by decide +kernel
theorem dX14_reach_4 : decode cX14_reach 4 = .ok (.invokevirtual 627, 3) := by decide +kernel
theorem dX14_reach_7 : decode cX14_reach 7 = .ok (.iconst 0, 1) := by decide +kernel
theorem dX14_reach_8 : decode cX14_reach 8 = .ok (.istore_n 3, 1) := by decide +kernel
theorem dX14_reach_9 : decode cX14_reach 9 = .ok (.iload_n 3, 1) := by decide +kernel
theorem dX14_reach_10 : decode cX14_reach 10 = .ok (.iload_n 2, 1) := by decide +kernel
theorem dX14_reach_11 : decode cX14_reach 11 = .ok (.if_icmp .ge 39, 3) := by decide +kernel
theorem dX14_reach_14 : decode cX14_reach 14 = .ok (.aload_n 0, 1) := by decide +kernel
theorem dX14_reach_15 : decode cX14_reach 15 = .ok (.getfield 122, 3) := by decide +kernel
theorem dX14_reach_18 : decode cX14_reach 18 = .ok (.aload_n 1, 1) := by decide +kernel
theorem dX14_reach_19 : decode cX14_reach 19 = .ok (.getfield 529, 3) := by decide +kernel
theorem dX14_reach_22 : decode cX14_reach 22 = .ok (.aload_n 1, 1) := by decide +kernel
theorem dX14_reach_23 : decode cX14_reach 23 = .ok (.getfield 596, 3) := by decide +kernel
theorem dX14_reach_26 : decode cX14_reach 26 = .ok (.iload_n 3, 1) := by decide +kernel
theorem dX14_reach_27 : decode cX14_reach 27 = .ok (.iaload, 1) := by decide +kernel
theorem dX14_reach_28 : decode cX14_reach 28 = .ok (.aload_n 1, 1) := by decide +kernel
theorem dX14_reach_29 : decode cX14_reach 29 = .ok (.getfield 594, 3) := by decide +kernel
theorem dX14_reach_32 : decode cX14_reach 32 = .ok (.iload_n 3, 1) := by decide +kernel
theorem dX14_reach_33 : decode cX14_reach 33 = .ok (.iaload, 1) := by decide +kernel
theorem dX14_reach_34 : decode cX14_reach 34 = .ok (.aload_n 1, 1) := by decide +kernel
theorem dX14_reach_35 : decode cX14_reach 35 = .ok (.getfield 599, 3) := by decide +kernel
theorem dX14_reach_38 : decode cX14_reach 38 = .ok (.iload_n 3, 1) := by decide +kernel
theorem dX14_reach_39 : decode cX14_reach 39 = .ok (.iaload, 1) := by decide +kernel
theorem dX14_reach_40 : decode cX14_reach 40 = .ok (.invokevirtual 629, 3) := by decide +kernel
theorem dX14_reach_43 : decode cX14_reach 43 = .ok (.pop, 1) := by decide +kernel
theorem dX14_reach_44 : decode cX14_reach 44 = .ok (.iinc 3 1, 3) := by decide +kernel
theorem dX14_reach_47 : decode cX14_reach 47 = .ok (.goto (-38), 3) := by decide +kernel
theorem dX14_reach_50 : decode cX14_reach 50 = .ok (.return_, 1) := by decide +kernel
def EX14_reach : List (Nat × Nat) := [(15, 5), (15, 7), (15, 10), (15, 11), (15, 15), (15, 18), (15, 19), (15, 20), (15, 21), (15, 30), (15, 31), (15, 32), (15, 33), (15, 34), (15, 36), (15, 38), (15, 39), (15, 40), (15, 41), (15, 42), (103, 0), (150, 0), (151, 0), (152, 0), (153, 0), (154, 0), (155, 0), (156, 0), (157, 0), (158, 0), (159, 0), (160, 0), (161, 0), (162, 0), (163, 0), (165, 0), (166, 0), (167, 0), (168, 0), (169, 0)]
set_option maxHeartbeats 4000000 in
set_option maxRecDepth 20000 in
theorem uX14_reach (l : Launch) (dC : Nat → ClassId) (dI : Nat → Nat → Nat) (ca : Nat → ClassId) (base : Nat) (B : jF) (hB : jBok B) (hAp : jAp (dC, dI)) (hB14 : ∀ n G a H, B 14 n G a H ↔ jOb (dC, dI) 14 11 (F14 n G) a H) (hB15 : ∀ n G a H, B 15 n G a H ↔ jOb (dC, dI) 15 50 (F15 n G) a H) (hB16 : ∀ n G a H, B 16 n G a H ↔ jOb (dC, dI) 16 74 (F16 n G) a H) (hB101 : ∀ n G a H, B 101 n G a H ↔ jAr (dC, dI) (ca 1) (fun j z => True) n a H) (hB103 : ∀ n G a H, B 103 n G a H ↔ jAr (dC, dI) (ca 3) (fun j z => (z = 0 ∨ z = 1)) n a H) (hB150 : ∀ n G a H, B 150 n G a H ↔ jAr (dC, dI) (ca 1) (fun j z => True) n a H) (hB151 : ∀ n G a H, B 151 n G a H ↔ jAr (dC, dI) (ca 1) (fun j z => True) n a H) (hB152 : ∀ n G a H, B 152 n G a H ↔ jAr (dC, dI) (ca 1) (fun j z => True) n a H) (hB153 : ∀ n G a H, B 153 n G a H ↔ jAr (dC, dI) (ca 1) (fun j z => True) n a H) (hB154 : ∀ n G a H, B 154 n G a H ↔ jAr (dC, dI) (ca 1) (fun j z => True) n a H) (hB155 : ∀ n G a H, B 155 n G a H ↔ jAr (dC, dI) (ca 1) (fun j z => 0 ≤ z.toInt ∧ z.toInt ≤ 11990) n a H) (hB156 : ∀ n G a H, B 156 n G a H ↔ jAr (dC, dI) (ca 1) (fun j z => 0 ≤ z.toInt ∧ z.toInt ≤ 10) n a H) (hB157 : ∀ n G a H, B 157 n G a H ↔ jAr (dC, dI) (ca 1) (fun j z => 0 ≤ z.toInt ∧ z.toInt ≤ 1599) n a H) (hB158 : ∀ n G a H, B 158 n G a H ↔ jAr (dC, dI) (ca 1) (fun j z => 0 ≤ z.toInt ∧ z.toInt ≤ 6) n a H) (hB159 : ∀ n G a H, B 159 n G a H ↔ jAr (dC, dI) (ca 1) (fun j z => 0 ≤ z.toInt ∧ z.toInt ≤ 8) n a H) (hB160 : ∀ n G a H, B 160 n G a H ↔ jAr (dC, dI) (ca 1) (fun j z => 0 ≤ z.toInt ∧ z.toInt ≤ 119999) n a H) (hB161 : ∀ n G a H, B 161 n G a H ↔ jAr (dC, dI) (ca 1) (fun j z => 0 ≤ z.toInt ∧ z.toInt ≤ 119999) n a H) (hB162 : ∀ n G a H, B 162 n G a H ↔ jAr (dC, dI) (ca 1) (fun j z => 0 ≤ z.toInt ∧ z.toInt ≤ 119999) n a H) (hB163 : ∀ n G a H, B 163 n G a H ↔ jAr (dC, dI) (ca 1) (fun j z => 0 ≤ z.toInt ∧ z.toInt ≤ 1599) n a H) (hB165 : ∀ n G a H, B 165 n G a H ↔ jAr (dC, dI) (ca 1) (fun j z => 0 ≤ z.toInt ∧ z.toInt ≤ 3) n a H) (hB166 : ∀ n G a H, B 166 n G a H ↔ jAr (dC, dI) (ca 1) (fun j z => True) n a H) (hB167 : ∀ n G a H, B 167 n G a H ↔ jAr (dC, dI) (ca 1) (fun j z => True) n a H) (hB168 : ∀ n G a H, B 168 n G a H ↔ jAr (dC, dI) (ca 1) (fun j z => 0 ≤ z.toInt ∧ z.toInt ≤ 119999) n a H) (hB169 : ∀ n G a H, B 169 n G a H ↔ jAr (dC, dI) (ca 1) (fun j z => True) n a H) (hB190 : ∀ n G a H, B 190 n G a H ↔ jAr (dC, dI) (ca 1) (fun j z => 0 ≤ z.toInt ∧ z.toInt ≤ 1500) n a H) (hB191 : ∀ n G a H, B 191 n G a H ↔ jAr (dC, dI) (ca 1) (fun j z => 0 ≤ z.toInt ∧ z.toInt ≤ 1500) n a H) (hB192 : ∀ n G a H, B 192 n G a H ↔ jAr (dC, dI) (ca 1) (fun j z => 0 ≤ z.toInt ∧ z.toInt ≤ 2) n a H) (hB194 : ∀ n G a H, B 194 n G a H ↔ jAr (dC, dI) (ca 1) (fun j z => True) n a H) (G0 : jT) (H0 : Heap) (r0 : Nat) (r1 : Nat) (a2 : Int32) (yb : Nat) (ye : Nat) (kr : Nat) (zf : Nat) (zg : Nat) (zh : Nat) (zp : Nat) (zs : Nat) (zn : Nat) (za : Nat) (zb : Nat) (zc : Nat) (zy : Nat) (sn : Int) (fb : Nat → Int32) (fe : Nat → Int32) (ff : Nat → Int32) (fg : Nat → Int32) (fh : Nat → Int32) (fp : Nat → Int32) (C : jK) : Met l yX14_reach (jw yX14_reach cX14_reach 4 none) ({ frames := 1704, cells := 0, slots := 0, locals := 71908 }) (va_Pc [.ref r0, .ref r1, .int a2] (fun U => U.heap = H0 ∧ jX B base G0 [] H0 ∧ jG dC dI ca base U ∧ G0 r1 = some (14, 0) ∧ G0 r0 = some (16, 0) ∧ G0 yb = some (190, 40) ∧ G0 ye = some (191, 40) ∧ G0 kr = some (15, 0) ∧ G0 zf = some (160, 16) ∧ G0 zg = some (161, 46) ∧ G0 zh = some (159, 46) ∧ G0 zp = some (162, 368) ∧ G0 zs = some (150, 120000) ∧ G0 zn = some (151, 120000) ∧ G0 za = some (152, 120000) ∧ G0 zb = some (153, 120000) ∧ G0 zc = some (154, 120000) ∧ G0 zy = some (165, 16) ∧ jP (dC, dI) G0 H0 [(r1, 14, 6, .ref yb), (r1, 14, 7, .ref ye), (r0, 16, 58, .ref kr), (kr, 15, 17, .ref zf), (kr, 15, 22, .ref zg), (kr, 15, 25, .ref zh), (kr, 15, 27, .ref zp), (kr, 15, 0, .ref zs), (kr, 15, 1, .ref zn), (kr, 15, 2, .ref za), (kr, 15, 3, .ref zb), (kr, 15, 4, .ref zc), (kr, 15, 14, .ref zy)] ∧ jMc (dC, dI) G0 H0 [(yb, 190, 40, ca 1, fb), (ye, 191, 40, ca 1, fe), (zf, 160, 16, ca 1, ff), (zg, 161, 46, ca 1, fg), (zh, 159, 46, ca 1, fh), (zp, 162, 368, ca 1, fp), (zs, 150, 120000, ca 1, C.s), (zn, 151, 120000, ca 1, C.n), (za, 152, 120000, ca 1, C.a), (zb, 153, 120000, ca 1, C.b), (zc, 154, 120000, ca 1, C.c), (zy, 165, 16, ca 1, C.y)] ∧ jSrt fb fe sn 1500 ∧ 0 ≤ a2.toInt ∧ a2.toInt ≤ sn ∧ sn ≤ 40)) (va_Qv (S := Int32 × Int32 × Int32 × Int32 × Int32 × Int32 × Int32 × Int32 × (Nat → Int32) × (Nat → Int32) × (Nat → Int32) × (Nat → Int32) × jK) (fun u => 0 ≤ u.1.toInt ∧ u.1.toInt ≤ 32000 ∧ jKi u.2.2.2.2.2.2.2.2.2.2.2.2 u.1.toInt u.2.1.toInt u.2.2.1.toInt u.2.2.2.1.toInt u.2.2.2.2.1.toInt u.2.2.2.2.2.1.toInt u.2.2.2.2.2.2.2.2.1 u.2.2.2.2.2.2.2.2.2.1 u.2.2.2.2.2.2.2.2.2.2.1 u.2.2.2.2.2.2.2.2.2.2.2.1 ∧ 0 ≤ u.2.2.2.2.2.2.1.toInt ∧ 0 ≤ u.2.2.2.2.2.2.2.1.toInt ∧ (a2.toInt < sn → u.1.toInt ≤ 8 * jSo fb a2.toInt + 500 * a2.toInt ∧ u.2.2.2.2.2.2.1.toInt ≤ jSo fb a2.toInt ∧ u.2.2.2.2.2.2.2.1.toInt ≤ jSo fb a2.toInt)) (fun u t => jRt (dC, dI) B base G0 EX14_reach H0 [(kr, 15, 5, .int u.1), (kr, 15, 11, .int u.2.1), (kr, 15, 15, .int u.2.2.1), (kr, 15, 21, .int u.2.2.2.1), (kr, 15, 18, .int u.2.2.2.2.1), (kr, 15, 20, .int u.2.2.2.2.2.1), (kr, 15, 10, .int u.2.2.2.2.2.2.1), (kr, 15, 7, .int u.2.2.2.2.2.2.2.1)] t.heap ∧ jMc (dC, dI) G0 t.heap [(zf, 160, 16, ca 1, u.2.2.2.2.2.2.2.2.1), (zg, 161, 46, ca 1, u.2.2.2.2.2.2.2.2.2.1), (zh, 159, 46, ca 1, u.2.2.2.2.2.2.2.2.2.2.1), (zp, 162, 368, ca 1, u.2.2.2.2.2.2.2.2.2.2.2.1), (zs, 150, 120000, ca 1, u.2.2.2.2.2.2.2.2.2.2.2.2.s), (zn, 151, 120000, ca 1, u.2.2.2.2.2.2.2.2.2.2.2.2.n), (za, 152, 120000, ca 1, u.2.2.2.2.2.2.2.2.2.2.2.2.a), (zb, 153, 120000, ca 1, u.2.2.2.2.2.2.2.2.2.2.2.2.b), (zc, 154, 120000, ca 1, u.2.2.2.2.2.2.2.2.2.2.2.2.c), (zy, 165, 16, ca 1, u.2.2.2.2.2.2.2.2.2.2.2.2.y)]) (jA base)) 0 0 (jA base) := by
  refine Met.ofW (cc := cX14_reach) (maxL := 4) (ret := none) (by decide) rfl ?_
  intro p e s m args below meth c s₁ Bd hml hv
  obtain ⟨rfl, hH0, hX, hG, hg_r1, hg_r0, hg_yb, hg_ye, hg_kr, hg_zf, hg_zg, hg_zh, hg_zp, hg_zs, hg_zn, hg_za, hg_zb, hg_zc, hg_zy, hP0, hM0, hp0, hp1, hp2, hp3⟩ := hv
  have hK := hG.1
  have hx := Bd.exec
  have hb := Bd.bytes
  have hr := Bd.returns
  have hts := atoms_spec (ws := (jw yX14_reach cX14_reach 4 none)) Bd.pre
  have htw : ∀ w ∈ jWl, w.before _ s = true := fun w h => hts w (List.mem_cons_of_mem _ h)
  have hown : s.vm.findClass RX14 = some m.cls := findClass_of_methodNamed Bd.named
  have hlocks := Bd.notSynchronized
  obtain ⟨Q, hQ⟩ : ∃ Q, Q = MQ below (va_Qv (S := Int32 × Int32 × Int32 × Int32 × Int32 × Int32 × Int32 × Int32 × (Nat → Int32) × (Nat → Int32) × (Nat → Int32) × (Nat → Int32) × jK) (fun u => 0 ≤ u.1.toInt ∧ u.1.toInt ≤ 32000 ∧ jKi u.2.2.2.2.2.2.2.2.2.2.2.2 u.1.toInt u.2.1.toInt u.2.2.1.toInt u.2.2.2.1.toInt u.2.2.2.2.1.toInt u.2.2.2.2.2.1.toInt u.2.2.2.2.2.2.2.2.1 u.2.2.2.2.2.2.2.2.2.1 u.2.2.2.2.2.2.2.2.2.2.1 u.2.2.2.2.2.2.2.2.2.2.2.1 ∧ 0 ≤ u.2.2.2.2.2.2.1.toInt ∧ 0 ≤ u.2.2.2.2.2.2.2.1.toInt ∧ (a2.toInt < sn → u.1.toInt ≤ 8 * jSo fb a2.toInt + 500 * a2.toInt ∧ u.2.2.2.2.2.2.1.toInt ≤ jSo fb a2.toInt ∧ u.2.2.2.2.2.2.2.1.toInt ≤ jSo fb a2.toInt)) (fun u t => jRt (dC, dI) B base G0 EX14_reach H0 [(kr, 15, 5, .int u.1), (kr, 15, 11, .int u.2.1), (kr, 15, 15, .int u.2.2.1), (kr, 15, 21, .int u.2.2.2.1), (kr, 15, 18, .int u.2.2.2.2.1), (kr, 15, 20, .int u.2.2.2.2.2.1), (kr, 15, 10, .int u.2.2.2.2.2.2.1), (kr, 15, 7, .int u.2.2.2.2.2.2.2.1)] t.heap ∧ jMc (dC, dI) G0 t.heap [(zf, 160, 16, ca 1, u.2.2.2.2.2.2.2.2.1), (zg, 161, 46, ca 1, u.2.2.2.2.2.2.2.2.2.1), (zh, 159, 46, ca 1, u.2.2.2.2.2.2.2.2.2.2.1), (zp, 162, 368, ca 1, u.2.2.2.2.2.2.2.2.2.2.2.1), (zs, 150, 120000, ca 1, u.2.2.2.2.2.2.2.2.2.2.2.2.s), (zn, 151, 120000, ca 1, u.2.2.2.2.2.2.2.2.2.2.2.2.n), (za, 152, 120000, ca 1, u.2.2.2.2.2.2.2.2.2.2.2.2.a), (zb, 153, 120000, ca 1, u.2.2.2.2.2.2.2.2.2.2.2.2.b), (zc, 154, 120000, ca 1, u.2.2.2.2.2.2.2.2.2.2.2.2.c), (zy, 165, 16, ca 1, u.2.2.2.2.2.2.2.2.2.2.2.2.y)]) (jA base)) ([.ref r0, .ref r1, .int a2] : List Value).toArray s 0 0 (jA base) := ⟨_, rfl⟩
  rw [← hQ]
  have hl := lv_entry ([.ref r0, .ref r1, .int a2]) (n := 4) (Nat.le_of_ble_eq_true rfl)
  rw [lg_entry_eq]
  generalize (lg_sl ([.ref r0, .ref r1, .int a2]) ++ List.replicate (4 - (lg_sl ([.ref r0, .ref r1, .int a2])).length) Slot.unset).toArray = ls at hl ⊢
  have hl : lv_has ls 4 [(0, .ref r0), (1, .ref r1), (2, .int a2)] := hl
  generalize hR : (headSpec (jw yX14_reach cX14_reach 4 none) ({ frames := 1704, cells := 0, slots := 0, locals := 71908 })).room = R
  subst hH0
  have hh : jSt (dC, dI) B base G0 G0 EX14_reach s.heap 0 0 [(r1, 14, 6, .ref yb), (r1, 14, 7, .ref ye), (r0, 16, 58, .ref kr), (kr, 15, 17, .ref zf), (kr, 15, 22, .ref zg), (kr, 15, 25, .ref zh), (kr, 15, 27, .ref zp), (kr, 15, 0, .ref zs), (kr, 15, 1, .ref zn), (kr, 15, 2, .ref za), (kr, 15, 3, .ref zb), (kr, 15, 4, .ref zc), (kr, 15, 14, .ref zy)] [(yb, 190, 40, ca 1, fb), (ye, 191, 40, ca 1, fe), (zf, 160, 16, ca 1, ff), (zg, 161, 46, ca 1, fg), (zh, 159, 46, ca 1, fh), (zp, 162, 368, ca 1, fp), (zs, 150, 120000, ca 1, C.s), (zn, 151, 120000, ca 1, C.n), (za, 152, 120000, ca 1, C.a), (zb, 153, 120000, ca 1, C.b), (zc, 154, 120000, ca 1, C.c), (zy, 165, 16, ca 1, C.y)] [] s.heap [] := jSt.start hX hP0 hM0 jIs.nil
  clear hX hP0
  have hk0 : (0 : Int32).toInt = 0 := by decide
  have hk1 : (1 : Int32).toInt = 1 := by decide
  have hly_14_3 := htw (u_lay RX12 TX12 3) (jWc_wsX120 _ (u_in_lay (by decide)))
  have hly_14_6 := htw (u_lay RX12 TX12 6) (jWc_wsX120 _ (u_in_lay (by decide)))
  have hly_14_7 := htw (u_lay RX12 TX12 7) (jWc_wsX120 _ (u_in_lay (by decide)))
  have hly_14_8 := htw (u_lay RX12 TX12 8) (jWc_wsX120 _ (u_in_lay (by decide)))
  have hly_16_58 := htw (u_lay RX14 TX14 58) (jWc_wsX140 _ (u_in_lay (by decide)))
  have hlk_122 := (htw (.fieldLink RX14 122 "ProofServerModel" "kernel" "LProofServerModel$Kernel;") (jWr_12 _ (List.mem_of_getElem? (i := 13) rfl)))
  have hlk_529 := (va_Nw.use (A := ([.ref r0, .ref r1, .int a2] : List Value).toArray) rfl (hG.2.1 RX14 529 "ProofServerModel$Document" "text" "[I" "ProofServerModel" (List.mem_of_getElem? (i := 1735) (by decide +kernel))))
  have hlk_596 := (va_Nw.use (A := ([.ref r0, .ref r1, .int a2] : List Value).toArray) rfl (hG.2.1 RX14 596 "ProofServerModel$Document" "begin" "[I" "ProofServerModel" (List.mem_of_getElem? (i := 1739) (by decide +kernel))))
  have hlk_594 := (va_Nw.use (A := ([.ref r0, .ref r1, .int a2] : List Value).toArray) rfl (hG.2.1 RX14 594 "ProofServerModel$Document" "end" "[I" "ProofServerModel" (List.mem_of_getElem? (i := 1741) (by decide +kernel))))
  have hlk_599 := (va_Nw.use (A := ([.ref r0, .ref r1, .int a2] : List Value).toArray) rfl (hG.2.1 RX14 599 "ProofServerModel$Document" "flaw" "[I" "ProofServerModel" (List.mem_of_getElem? (i := 1743) (by decide +kernel))))
  have hrg_a2 := jb_rng a2
  refine lv_aload_n hx hb dX14_reach_0 rfl (lv_at hl 0 rfl) ?_
  refine j7_read hx hb hown hK (C := RX14) (T := TX14) (N := 74) rfl hly_16_58 hlk_122 (hh.at 2 rfl) dX14_reach_1 ?_
  refine va_callv (A0 := jA base) (H0 := s.heap) (va_runV (As := []) (rest := []) ⟨hx, hb, hml, hown, hts⟩ (uX13_beginK l dC dI ca base B hB hAp hB15 G0 s.heap kr) (cwV 0 hts (jgV (jWr_59 _ (List.mem_of_getElem? (i := 10) rfl)) (jWr_59 _ (List.mem_of_getElem? (i := 11) rfl)) (jWr_59 _ (List.mem_of_getElem? (i := 12) rfl)) (jWr_12 _ (List.mem_of_getElem? (i := 12) rfl)) (jWr_59 _ (List.mem_of_getElem? (i := 13) rfl))) rfl rfl rfl (by decide +kernel) ⟨by rw [← hR]; exact Nat.le_of_ble_eq_true rfl, by rw [← hR]; exact Nat.le_of_ble_eq_true rfl⟩) ⟨fun a U g mk q => by obtain ⟨q0, q1, q2, qK, q10, q11, q12⟩ := q; exact ⟨q0, q1, q2, jG.calling g mk a qK, q10, q11, q12⟩, hh.recv (C := RX13) (T := TX13) (N := 50) hB15 rfl (by decide) hg_kr hK, fun U hU hW => ⟨rfl, hU, hh.2.1, hG.step hW hU hh.1, hg_kr, jP.nil, trivial⟩⟩ rfl rfl hl.1 rfl (lv_room (Nat.le_of_ble_eq_true rfl)) dX14_reach_4 ⟨Nat.zero_le _, Nat.zero_le _⟩) hh.1 (fun q _ h => h) (fun q h => h) (fun u_1 t_1 H_1 locs_1 ht_1 hvm_1 hr_2 hb_1 hz_1 hk_1 hS_1 => ?_)
  obtain ⟨qn_1, qy_1, qf_1, qg_1, qp_1, qc_1, qs_1⟩ := u_1
  rw [ht_1] at hb_1
  obtain ⟨hb_11, hb_12, hb_13, hb_14, hb_15⟩ := hb_1
  have hh_1 : jSt (dC, dI) B base G0 G0 EX14_reach s.heap 0 0 [(kr, 15, 5, .int qn_1), (kr, 15, 11, .int qy_1), (kr, 15, 15, .int qf_1), (kr, 15, 21, .int qg_1), (kr, 15, 18, .int qp_1), (kr, 15, 10, .int qc_1), (kr, 15, 7, .int qs_1), (r1, 14, 6, .ref yb), (r1, 14, 7, .ref ye), (r0, 16, 58, .ref kr), (kr, 15, 17, .ref zf), (kr, 15, 22, .ref zg), (kr, 15, 25, .ref zh), (kr, 15, 27, .ref zp), (kr, 15, 0, .ref zs), (kr, 15, 1, .ref zn), (kr, 15, 2, .ref za), (kr, 15, 3, .ref zb), (kr, 15, 4, .ref zc), (kr, 15, 14, .ref zy)] [(yb, 190, 40, ca 1, fb), (ye, 191, 40, ca 1, fe), (zf, 160, 16, ca 1, ff), (zg, 161, 46, ca 1, fg), (zh, 159, 46, ca 1, fh), (zp, 162, 368, ca 1, fp), (zs, 150, 120000, ca 1, C.s), (zn, 151, 120000, ca 1, C.n), (za, 152, 120000, ca 1, C.a), (zb, 153, 120000, ca 1, C.b), (zc, 154, 120000, ca 1, C.c), (zy, 165, 16, ca 1, C.y)] [] H_1 locs_1 := ((hh.call hb_11 hb_12 hb_13 hb_14 hS_1 rfl (L1 := [(r1, 14, 6, .ref yb), (r1, 14, 7, .ref ye), (r0, 16, 58, .ref kr), (kr, 15, 17, .ref zf), (kr, 15, 22, .ref zg), (kr, 15, 25, .ref zh), (kr, 15, 27, .ref zp), (kr, 15, 0, .ref zs), (kr, 15, 1, .ref zn), (kr, 15, 2, .ref za), (kr, 15, 3, .ref zb), (kr, 15, 4, .ref zc), (kr, 15, 14, .ref zy)]) [0, 1, 2, 3, 4, 5, 6, 7, 8, 9, 10, 11, 12] rfl rfl (M1 := [(yb, 190, 40, ca 1, fb), (ye, 191, 40, ca 1, fe), (zf, 160, 16, ca 1, ff), (zg, 161, 46, ca 1, fg), (zh, 159, 46, ca 1, fh), (zp, 162, 368, ca 1, fp), (zs, 150, 120000, ca 1, C.s), (zn, 151, 120000, ca 1, C.n), (za, 152, 120000, ca 1, C.a), (zb, 153, 120000, ca 1, C.b), (zc, 154, 120000, ca 1, C.c), (zy, 165, 16, ca 1, C.y)]) [0, 1, 2, 3, 4, 5, 6, 7, 8, 9, 10, 11] rfl rfl (I1 := []) [] rfl rfl).more hb_15)
  clear hh ht_1 hvm_1 hz_1 hk_1 hS_1 hb_11 hb_12 hb_13 hb_14 hb_15
  try simp only at hr_2
  obtain ⟨hr_2_0, hr_2_1, hr_2_2, hr_2_3, hr_2_4, hr_2_5, hr_2_6⟩ := hr_2
  refine lv_iconst (v := 0) hx hb dX14_reach_7 (by decide) ?_
  refine lv_istore_n (lv' := [(3, .int 0), (0, .ref r0), (1, .ref r1), (2, .int a2)]) hx hb dX14_reach_8 rfl hl (by decide) rfl (fun ls hl => ?_)
  have L9 : ∀ (N : Nat) (v3_3 : Int32) (wn_3 : Int32) (wy_3 : Int32) (wf_3 : Int32) (wg_3 : Int32) (wp_3 : Int32) (wl_3 : Int32) (wc_3 : Int32) (ws_3 : Int32) (ff_3 : Nat → Int32) (fg_3 : Nat → Int32) (fh_3 : Nat → Int32) (fp_3 : Nat → Int32) (D_3 : jK) (H_3 : Heap) (locs_3 : List Loc), jSt (dC, dI) B base G0 G0 EX14_reach s.heap 0 0 [(kr, 15, 5, .int wn_3), (kr, 15, 11, .int wy_3), (kr, 15, 15, .int wf_3), (kr, 15, 21, .int wg_3), (kr, 15, 18, .int wp_3), (kr, 15, 20, .int wl_3), (kr, 15, 10, .int wc_3), (kr, 15, 7, .int ws_3), (r1, 14, 6, .ref yb), (r1, 14, 7, .ref ye), (r0, 16, 58, .ref kr), (kr, 15, 17, .ref zf), (kr, 15, 22, .ref zg), (kr, 15, 25, .ref zh), (kr, 15, 27, .ref zp), (kr, 15, 0, .ref zs), (kr, 15, 1, .ref zn), (kr, 15, 2, .ref za), (kr, 15, 3, .ref zb), (kr, 15, 4, .ref zc), (kr, 15, 14, .ref zy)] [(zs, 150, 120000, ca 1, D_3.s), (zn, 151, 120000, ca 1, D_3.n), (za, 152, 120000, ca 1, D_3.a), (zb, 153, 120000, ca 1, D_3.b), (zc, 154, 120000, ca 1, D_3.c), (zy, 165, 16, ca 1, D_3.y), (zp, 162, 368, ca 1, fp_3), (zh, 159, 46, ca 1, fh_3), (zg, 161, 46, ca 1, fg_3), (zf, 160, 16, ca 1, ff_3), (yb, 190, 40, ca 1, fb), (ye, 191, 40, ca 1, fe)] [] H_3 locs_3 → (0 ≤ v3_3.toInt ∧ v3_3.toInt ≤ a2.toInt ∧ jKi D_3 wn_3.toInt wy_3.toInt wf_3.toInt wg_3.toInt wp_3.toInt wl_3.toInt ff_3 fg_3 fh_3 fp_3 ∧ 0 ≤ wc_3.toInt ∧ 0 ≤ ws_3.toInt ∧ wc_3.toInt ≤ 1500 ∧ ws_3.toInt ≤ 1500 ∧ 0 ≤ wn_3.toInt ∧ wn_3.toInt ≤ 12000 + 500 * v3_3.toInt ∧ (v3_3.toInt < sn → wn_3.toInt ≤ 8 * jSo fb v3_3.toInt + 500 * v3_3.toInt ∧ wc_3.toInt ≤ jSo fb v3_3.toInt ∧ ws_3.toInt ≤ jSo fb v3_3.toInt)) → (a2.toInt - v3_3.toInt : Int) < N → ∀ ls : Array Slot, lv_has ls 4 [(0, .ref r0), (1, .ref r1), (2, .int a2), (3, .int v3_3)] → W p l e R s m ([.ref r0, .ref r1, .int a2] : List Value).toArray below meth c H_3 locs_3 0 0 Q (F0 m 9 ls []) := by
    intro N
    induction N with
    | zero => intro v3_3 wn_3 wy_3 wf_3 wg_3 wp_3 wl_3 wc_3 ws_3 ff_3 fg_3 fh_3 fp_3 D_3 H_3 locs_3 hh_3  hi_3 hm; exact absurd hm (by omega)
    | succ N L9 =>
      intro v3_3 wn_3 wy_3 wf_3 wg_3 wp_3 wl_3 wc_3 ws_3 ff_3 fg_3 fh_3 fp_3 D_3 H_3 locs_3 hh_3  hi_3 hm_3 ls hl
      obtain ⟨hi_3_0, hi_3_1, hi_3_2, hi_3_3, hi_3_4, hi_3_5, hi_3_6, hi_3_7, hi_3_8, hi_3_9⟩ := hi_3
      refine lv_iload_n hx hb dX14_reach_9 rfl (lv_at hl 3 rfl) ?_
      refine lv_iload_n hx hb dX14_reach_10 rfl (lv_at hl 2 rfl) ?_
      refine lv_icmp_ge (tgt := 50) hx hb dX14_reach_11 (by decide) (fun c_4 => ?_) (fun c_4 => ?_)
      · skip
        have c_4' : v3_3.toInt ≥ a2.toInt := jb_ge (rfl) (rfl) c_4
        rw [hQ]
        exact W.vret hx hb hr (fun t ht hW => ⟨⟨(wn_3, wy_3, wf_3, wg_3, wp_3, wl_3, wc_3, ws_3, ff_3, fg_3, fh_3, fp_3, D_3), rfl, by (try dsimp only); exact ⟨by omega, by omega, hi_3_2, by omega, by omega, fun h9 => by have h8 := hi_3_9 (by omega); rw [show a2.toInt = v3_3.toInt by omega]; exact h8⟩, ⟨hh_3.rt (M1 := [(kr, 15, 5, .int wn_3), (kr, 15, 11, .int wy_3), (kr, 15, 15, .int wf_3), (kr, 15, 21, .int wg_3), (kr, 15, 18, .int wp_3), (kr, 15, 20, .int wl_3), (kr, 15, 10, .int wc_3), (kr, 15, 7, .int ws_3)]) [0, 1, 2, 3, 4, 5, 6, 7] rfl ht, by rw [ht]; exact hh_3.2.2.2.2.2.2.2.1.sub [9, 8, 7, 6, 0, 1, 2, 3, 4, 5] rfl⟩⟩, by rw [ht]; try exact hh_3.1.1, fun q h9 hq => by rw [ht]; try exact hh_3.1.2.1 q h9 hq⟩) hh_3.1.2.2 dX14_reach_50
      · skip
        have c_4' : v3_3.toInt < a2.toInt := jb_ge_n (rfl) (rfl) c_4
        obtain ⟨s1, s2, s3, s4⟩ := hp0 v3_3.toInt (by omega) (by omega)
        obtain ⟨t1, t2, t3⟩ := hi_3_9 (by omega)
        refine lv_aload_n hx hb dX14_reach_14 rfl (lv_at hl 0 rfl) ?_
        refine j7_read hx hb hown hK (C := RX14) (T := TX14) (N := 74) rfl hly_16_58 hlk_122 (hh_3.at 10 rfl) dX14_reach_15 ?_
        refine lv_aload_n hx hb dX14_reach_18 rfl (lv_at hl 1 rfl) ?_
        obtain ⟨v_5, hv_5, hh_6⟩ := hh_3.pin (C := RX12) (T := TX12) (N := 11) hB14 rfl (by decide) hg_r1 (i := 3) (by decide) rfl
        clear hh_3
        obtain ⟨text_7, rfl, hg_text_7⟩ := hv_5
        refine j7_readN hx hb hown hK (C := RX12) (T := TX12) (N := 11) rfl hly_14_3 hlk_529 (hh_6.at 0 rfl) dX14_reach_19 ?_
        refine lv_aload_n hx hb dX14_reach_22 rfl (lv_at hl 1 rfl) ?_
        refine j7_readN hx hb hown hK (C := RX12) (T := TX12) (N := 11) rfl hly_14_6 hlk_596 (hh_6.at 9 rfl) dX14_reach_23 ?_
        refine lv_iload_n hx hb dX14_reach_26 rfl (lv_at hl 3 rfl) ?_
        refine j7_ialdM hx hb hK hh_6 hB190 1 rfl (by decide) hg_yb (x := v3_3.toInt) (rfl) (by omega) (j := 10) rfl dX14_reach_27 (fun z_8 ez_8 (hz_8 : 0 ≤ z_8.toInt ∧ z_8.toInt ≤ 1500) => ?_)
        have hqz_8 : z_8.toInt = jSo fb (v3_3.toInt) := by unfold jSo; rw [ez_8]
        refine lv_aload_n hx hb dX14_reach_28 rfl (lv_at hl 1 rfl) ?_
        refine j7_readN hx hb hown hK (C := RX12) (T := TX12) (N := 11) rfl hly_14_7 hlk_594 (hh_6.at 10 rfl) dX14_reach_29 ?_
        refine lv_iload_n hx hb dX14_reach_32 rfl (lv_at hl 3 rfl) ?_
        refine j7_ialdM hx hb hK hh_6 hB191 1 rfl (by decide) hg_ye (x := v3_3.toInt) (rfl) (by omega) (j := 11) rfl dX14_reach_33 (fun z_9 ez_9 (hz_9 : 0 ≤ z_9.toInt ∧ z_9.toInt ≤ 1500) => ?_)
        have hqz_9 : z_9.toInt = jSo fe (v3_3.toInt) := by unfold jSo; rw [ez_9]
        refine lv_aload_n hx hb dX14_reach_34 rfl (lv_at hl 1 rfl) ?_
        obtain ⟨v_10, hv_10, hh_11⟩ := hh_6.pin (C := RX12) (T := TX12) (N := 11) hB14 rfl (by decide) hg_r1 (i := 8) (by decide) rfl
        clear hh_6
        obtain ⟨flaw_12, rfl, hg_flaw_12⟩ := hv_10
        refine j7_readN hx hb hown hK (C := RX12) (T := TX12) (N := 11) rfl hly_14_8 hlk_599 (hh_11.at 0 rfl) dX14_reach_35 ?_
        refine lv_iload_n hx hb dX14_reach_38 rfl (lv_at hl 3 rfl) ?_
        refine j7_iald hx hb hK hh_11 hB192 1 rfl (by decide) hg_flaw_12 (x := v3_3.toInt) (rfl) (by omega) dX14_reach_39 (fun z_13 (hz_13 : 0 ≤ z_13.toInt ∧ z_13.toInt ≤ 2) => ?_)
        refine va_calli (A0 := jA base) (H0 := s.heap) (va_runV (As := [.ref text_7, .int z_8, .int z_9, .int z_13]) (rest := []) ⟨hx, hb, hml, hown, hts⟩ (uX13_sentencev9 l dC dI ca base B hB hAp hB15 hB101 hB103 hB150 hB151 hB152 hB153 hB154 hB155 hB156 hB157 hB158 hB159 hB160 hB161 hB162 hB163 hB165 hB166 hB167 hB168 hB169 hB194 G0 H_3 kr text_7 z_8 z_9 z_13 1500 wn_3 wy_3 wf_3 wg_3 wp_3 wl_3 wc_3 ws_3 zf zg zh zp zs zn za zb zc zy ff_3 fg_3 fh_3 fp_3 D_3) (cwV 4 hts (jgV (jWr_59 _ (List.mem_of_getElem? (i := 21) rfl)) (jWr_59 _ (List.mem_of_getElem? (i := 22) rfl)) (jWr_59 _ (List.mem_of_getElem? (i := 23) rfl)) (jWr_12 _ (List.mem_of_getElem? (i := 12) rfl)) (jWr_60 _ (List.mem_of_getElem? (i := 0) rfl))) rfl rfl rfl (by decide +kernel) ⟨by rw [← hR]; exact Nat.le_of_ble_eq_true rfl, by rw [← hR]; exact Nat.le_of_ble_eq_true rfl⟩) ⟨fun a U g mk q => by obtain ⟨q0, q1, q2, qK, q10, q11, q12, q13, q14, q15, q16, q17, q18, q19, q20, q21, q22, q23, q24⟩ := q; exact ⟨q0, q1, q2, jG.calling g mk a qK, q10, q11, q12, q13, q14, q15, q16, q17, q18, q19, q20, q21, q22, q23, q24⟩, hh_11.recv (C := RX13) (T := TX13) (N := 50) hB15 rfl (by decide) hg_kr hK, fun U hU hW => ⟨rfl, hU, hh_11.2.1, hG.step hW hU hh_11.1, hg_text_7, hg_kr, hg_zf, hg_zg, hg_zh, hg_zp, hg_zs, hg_zn, hg_za, hg_zb, hg_zc, hg_zy, (hh_11.2.2.1.sub (L1 := [(kr, 15, 5, .int wn_3), (kr, 15, 11, .int wy_3), (kr, 15, 15, .int wf_3), (kr, 15, 21, .int wg_3), (kr, 15, 18, .int wp_3), (kr, 15, 20, .int wl_3), (kr, 15, 10, .int wc_3), (kr, 15, 7, .int ws_3), (kr, 15, 17, .ref zf), (kr, 15, 22, .ref zg), (kr, 15, 25, .ref zh), (kr, 15, 27, .ref zp), (kr, 15, 0, .ref zs), (kr, 15, 1, .ref zn), (kr, 15, 2, .ref za), (kr, 15, 3, .ref zb), (kr, 15, 4, .ref zc), (kr, 15, 14, .ref zy)]) [2, 3, 4, 5, 6, 7, 8, 9, 13, 14, 15, 16, 17, 18, 19, 20, 21, 22] rfl), (hh_11.2.2.2.2.2.2.2.1.sub (L1 := [(zf, 160, 16, ca 1, ff_3), (zg, 161, 46, ca 1, fg_3), (zh, 159, 46, ca 1, fh_3), (zp, 162, 368, ca 1, fp_3), (zs, 150, 120000, ca 1, D_3.s), (zn, 151, 120000, ca 1, D_3.n), (za, 152, 120000, ca 1, D_3.a), (zb, 153, 120000, ca 1, D_3.b), (zc, 154, 120000, ca 1, D_3.c), (zy, 165, 16, ca 1, D_3.y)]) [9, 8, 7, 6, 0, 1, 2, 3, 4, 5] rfl), ⟨(by first | assumption | exact hi_3_2 | omega), (by first | omega | rfl | assumption | exact hi_3_2), (by first | omega | rfl | assumption | exact hi_3_2), (by first | omega | rfl | assumption | exact hi_3_2), (by first | omega | rfl | assumption | exact hi_3_2), (by first | omega | rfl | assumption | exact hi_3_2), (by first | omega | rfl | assumption | exact hi_3_2), (by first | omega | rfl | assumption | exact hi_3_2), (by first | omega | rfl | assumption | exact hi_3_2), (by first | omega | rfl | assumption | exact hi_3_2)⟩⟩⟩ rfl rfl hl.1 rfl (lv_room (Nat.le_of_ble_eq_true rfl)) dX14_reach_40 ⟨Nat.zero_le _, Nat.zero_le _⟩) hh_11.1 (fun q _ h => h) (fun q h => h) (fun r_15 u_14 t_14 H_14 locs_14 ht_14 hvm_14 hr_15 hb_14 hz_14 hk_14 hS_14 => ?_)
        obtain ⟨qn_14, qy_14, qf_14, qg_14, qp_14, ql_14, qc_14, qs_14, gf_14, gg_14, gh_14, gp_14, D_14⟩ := u_14
        rw [ht_14] at hb_14
        obtain ⟨⟨hb_141, hb_142, hb_143, hb_144, hb_145⟩, hb_146⟩ := hb_14
        have hh_14 : jSt (dC, dI) B base G0 G0 EX14_reach s.heap 0 0 [(kr, 15, 5, .int qn_14), (kr, 15, 11, .int qy_14), (kr, 15, 15, .int qf_14), (kr, 15, 21, .int qg_14), (kr, 15, 18, .int qp_14), (kr, 15, 20, .int ql_14), (kr, 15, 10, .int qc_14), (kr, 15, 7, .int qs_14), (r1, 14, 8, .ref flaw_12), (r1, 14, 3, .ref text_7), (r1, 14, 6, .ref yb), (r1, 14, 7, .ref ye), (r0, 16, 58, .ref kr), (kr, 15, 17, .ref zf), (kr, 15, 22, .ref zg), (kr, 15, 25, .ref zh), (kr, 15, 27, .ref zp), (kr, 15, 0, .ref zs), (kr, 15, 1, .ref zn), (kr, 15, 2, .ref za), (kr, 15, 3, .ref zb), (kr, 15, 4, .ref zc), (kr, 15, 14, .ref zy)] [(zf, 160, 16, ca 1, gf_14), (zg, 161, 46, ca 1, gg_14), (zh, 159, 46, ca 1, gh_14), (zp, 162, 368, ca 1, gp_14), (zs, 150, 120000, ca 1, D_14.s), (zn, 151, 120000, ca 1, D_14.n), (za, 152, 120000, ca 1, D_14.a), (zb, 153, 120000, ca 1, D_14.b), (zc, 154, 120000, ca 1, D_14.c), (zy, 165, 16, ca 1, D_14.y), (yb, 190, 40, ca 1, fb), (ye, 191, 40, ca 1, fe)] [] H_14 locs_14 := ((hh_11.call hb_141 hb_142 hb_143 hb_144 hS_14 rfl (L1 := [(r1, 14, 8, .ref flaw_12), (r1, 14, 3, .ref text_7), (r1, 14, 6, .ref yb), (r1, 14, 7, .ref ye), (r0, 16, 58, .ref kr), (kr, 15, 17, .ref zf), (kr, 15, 22, .ref zg), (kr, 15, 25, .ref zh), (kr, 15, 27, .ref zp), (kr, 15, 0, .ref zs), (kr, 15, 1, .ref zn), (kr, 15, 2, .ref za), (kr, 15, 3, .ref zb), (kr, 15, 4, .ref zc), (kr, 15, 14, .ref zy)]) [0, 1, 10, 11, 12, 13, 14, 15, 16, 17, 18, 19, 20, 21, 22] rfl rfl (M1 := [(yb, 190, 40, ca 1, fb), (ye, 191, 40, ca 1, fe)]) [10, 11] rfl rfl (I1 := []) [] rfl rfl).more hb_145).moreM hb_146
        clear hh_11 ht_14 hvm_14 hz_14 hk_14 hS_14 hb_141 hb_142 hb_143 hb_144 hb_145
        clear hb_146
        try simp only at hr_15
        obtain ⟨hr_15_0, hr_15_1, hr_15_2, hr_15_3, hr_15_4, hr_15_5, hr_15_6⟩ := hr_15
        refine lv_pop hx hb dX14_reach_43 rfl ?_
        obtain ⟨z_16, ez_16⟩ : ∃ y : Int32, y = v3_3 + 1 := ⟨_, rfl⟩
        refine lv_iinc (v := z_16) (lv' := [(3, .int z_16), (0, .ref r0), (1, .ref r1), (2, .int a2)]) hx hb dX14_reach_44 hl (k := 3) rfl (by rw [ez_16]; rfl) (by decide) rfl (fun ls hl => ?_)
        have hz_16 : z_16.toInt = v3_3.toInt + 1 := by rw [ez_16]; exact jb_iadd2 (rfl) (by decide) (by omega)
        refine lv_goto (tgt := 9) hx hb dX14_reach_47 (by decide) ?_
        exact L9 z_16 qn_14 qy_14 qf_14 qg_14 qp_14 ql_14 qc_14 qs_14 gf_14 gg_14 gh_14 gp_14 D_14 _ _ (hh_14.sub (L1 := [(kr, 15, 5, .int qn_14), (kr, 15, 11, .int qy_14), (kr, 15, 15, .int qf_14), (kr, 15, 21, .int qg_14), (kr, 15, 18, .int qp_14), (kr, 15, 20, .int ql_14), (kr, 15, 10, .int qc_14), (kr, 15, 7, .int qs_14), (r1, 14, 6, .ref yb), (r1, 14, 7, .ref ye), (r0, 16, 58, .ref kr), (kr, 15, 17, .ref zf), (kr, 15, 22, .ref zg), (kr, 15, 25, .ref zh), (kr, 15, 27, .ref zp), (kr, 15, 0, .ref zs), (kr, 15, 1, .ref zn), (kr, 15, 2, .ref za), (kr, 15, 3, .ref zb), (kr, 15, 4, .ref zc), (kr, 15, 14, .ref zy)]) [0, 1, 2, 3, 4, 5, 6, 7, 10, 11, 12, 13, 14, 15, 16, 17, 18, 19, 20, 21, 22] rfl (M1 := [(zs, 150, 120000, ca 1, D_14.s), (zn, 151, 120000, ca 1, D_14.n), (za, 152, 120000, ca 1, D_14.a), (zb, 153, 120000, ca 1, D_14.b), (zc, 154, 120000, ca 1, D_14.c), (zy, 165, 16, ca 1, D_14.y), (zp, 162, 368, ca 1, gp_14), (zh, 159, 46, ca 1, gh_14), (zg, 161, 46, ca 1, gg_14), (zf, 160, 16, ca 1, gf_14), (yb, 190, 40, ca 1, fb), (ye, 191, 40, ca 1, fe)]) [4, 5, 6, 7, 8, 9, 3, 2, 1, 0, 10, 11] rfl (I1 := []) [] rfl) (⟨(by first | omega | rfl | assumption | exact jKi.zero (by omega) (by omega) (by omega) (by omega) (by omega) | (intro _; rw [hk0]; have h9 := (hp0 0 (by omega) (by omega)).1; exact ⟨by omega, by omega, by omega⟩) | exact hr_15_6 | (intro h9; rw [show (z_16).toInt = v3_3.toInt + 1 by omega]; have h8 := s4 (by omega); exact ⟨by omega, by omega, by omega⟩)), (by first | omega | rfl | assumption | exact jKi.zero (by omega) (by omega) (by omega) (by omega) (by omega) | (intro _; rw [hk0]; have h9 := (hp0 0 (by omega) (by omega)).1; exact ⟨by omega, by omega, by omega⟩) | exact hr_15_6 | (intro h9; rw [show (z_16).toInt = v3_3.toInt + 1 by omega]; have h8 := s4 (by omega); exact ⟨by omega, by omega, by omega⟩)), (by first | assumption | exact jKi.zero (by omega) (by omega) (by omega) (by omega) (by omega) | (intro _; rw [hk0]; have h9 := (hp0 0 (by omega) (by omega)).1; exact ⟨by omega, by omega, by omega⟩) | exact hr_15_6 | (intro h9; rw [show (z_16).toInt = v3_3.toInt + 1 by omega]; have h8 := s4 (by omega); exact ⟨by omega, by omega, by omega⟩) | omega), (by first | omega | rfl | assumption | exact jKi.zero (by omega) (by omega) (by omega) (by omega) (by omega) | (intro _; rw [hk0]; have h9 := (hp0 0 (by omega) (by omega)).1; exact ⟨by omega, by omega, by omega⟩) | exact hr_15_6 | (intro h9; rw [show (z_16).toInt = v3_3.toInt + 1 by omega]; have h8 := s4 (by omega); exact ⟨by omega, by omega, by omega⟩)), (by first | omega | rfl | assumption | exact jKi.zero (by omega) (by omega) (by omega) (by omega) (by omega) | (intro _; rw [hk0]; have h9 := (hp0 0 (by omega) (by omega)).1; exact ⟨by omega, by omega, by omega⟩) | exact hr_15_6 | (intro h9; rw [show (z_16).toInt = v3_3.toInt + 1 by omega]; have h8 := s4 (by omega); exact ⟨by omega, by omega, by omega⟩)), (by first | omega | rfl | assumption | exact jKi.zero (by omega) (by omega) (by omega) (by omega) (by omega) | (intro _; rw [hk0]; have h9 := (hp0 0 (by omega) (by omega)).1; exact ⟨by omega, by omega, by omega⟩) | exact hr_15_6 | (intro h9; rw [show (z_16).toInt = v3_3.toInt + 1 by omega]; have h8 := s4 (by omega); exact ⟨by omega, by omega, by omega⟩)), (by first | omega | rfl | assumption | exact jKi.zero (by omega) (by omega) (by omega) (by omega) (by omega) | (intro _; rw [hk0]; have h9 := (hp0 0 (by omega) (by omega)).1; exact ⟨by omega, by omega, by omega⟩) | exact hr_15_6 | (intro h9; rw [show (z_16).toInt = v3_3.toInt + 1 by omega]; have h8 := s4 (by omega); exact ⟨by omega, by omega, by omega⟩)), (by first | omega | rfl | assumption | exact jKi.zero (by omega) (by omega) (by omega) (by omega) (by omega) | (intro _; rw [hk0]; have h9 := (hp0 0 (by omega) (by omega)).1; exact ⟨by omega, by omega, by omega⟩) | exact hr_15_6 | (intro h9; rw [show (z_16).toInt = v3_3.toInt + 1 by omega]; have h8 := s4 (by omega); exact ⟨by omega, by omega, by omega⟩)), (by first | omega | rfl | assumption | exact jKi.zero (by omega) (by omega) (by omega) (by omega) (by omega) | (intro _; rw [hk0]; have h9 := (hp0 0 (by omega) (by omega)).1; exact ⟨by omega, by omega, by omega⟩) | exact hr_15_6 | (intro h9; rw [show (z_16).toInt = v3_3.toInt + 1 by omega]; have h8 := s4 (by omega); exact ⟨by omega, by omega, by omega⟩)), (by first | assumption | exact jKi.zero (by omega) (by omega) (by omega) (by omega) (by omega) | (intro _; rw [hk0]; have h9 := (hp0 0 (by omega) (by omega)).1; exact ⟨by omega, by omega, by omega⟩) | exact hr_15_6 | (intro h9; rw [show (z_16).toInt = v3_3.toInt + 1 by omega]; have h8 := s4 (by omega); exact ⟨by omega, by omega, by omega⟩) | omega)⟩) (by omega) _ (lv_sub hl [1, 2, 3, 0] rfl)
  obtain ⟨v_17, hv_17, hh_18⟩ := hh_1.pin (C := RX13) (T := TX13) (N := 50) hB15 rfl (by decide) hg_kr (i := 20) (by decide) rfl
  obtain ⟨lemma_19, rfl, hlolemma_19, hhilemma_19⟩ := hv_17
  exact L9 (a2.toInt - (0 : Int32).toInt : Int).toNat.succ 0 qn_1 qy_1 qf_1 qg_1 qp_1 lemma_19 qc_1 qs_1 ff fg fh fp C _ _ (hh_18.sub (L1 := [(kr, 15, 5, .int qn_1), (kr, 15, 11, .int qy_1), (kr, 15, 15, .int qf_1), (kr, 15, 21, .int qg_1), (kr, 15, 18, .int qp_1), (kr, 15, 20, .int lemma_19), (kr, 15, 10, .int qc_1), (kr, 15, 7, .int qs_1), (r1, 14, 6, .ref yb), (r1, 14, 7, .ref ye), (r0, 16, 58, .ref kr), (kr, 15, 17, .ref zf), (kr, 15, 22, .ref zg), (kr, 15, 25, .ref zh), (kr, 15, 27, .ref zp), (kr, 15, 0, .ref zs), (kr, 15, 1, .ref zn), (kr, 15, 2, .ref za), (kr, 15, 3, .ref zb), (kr, 15, 4, .ref zc), (kr, 15, 14, .ref zy)]) [1, 2, 3, 4, 5, 0, 6, 7, 8, 9, 10, 11, 12, 13, 14, 15, 16, 17, 18, 19, 20] rfl (M1 := [(zs, 150, 120000, ca 1, C.s), (zn, 151, 120000, ca 1, C.n), (za, 152, 120000, ca 1, C.a), (zb, 153, 120000, ca 1, C.b), (zc, 154, 120000, ca 1, C.c), (zy, 165, 16, ca 1, C.y), (zp, 162, 368, ca 1, fp), (zh, 159, 46, ca 1, fh), (zg, 161, 46, ca 1, fg), (zf, 160, 16, ca 1, ff), (yb, 190, 40, ca 1, fb), (ye, 191, 40, ca 1, fe)]) [6, 7, 8, 9, 10, 11, 5, 4, 3, 2, 0, 1] rfl (I1 := []) [] rfl) (⟨(by first | omega | rfl | assumption | exact jKi.zero (by omega) (by omega) (by omega) (by omega) (by omega) | (intro _; rw [hk0]; have h9 := (hp0 0 (by omega) (by omega)).1; exact ⟨by omega, by omega, by omega⟩) | exact hr_15_6 | (intro h9; rw [show (0).toInt = (zz_none).toInt + 1 by omega]; have h8 := s4 (by omega); exact ⟨by omega, by omega, by omega⟩)), (by first | omega | rfl | assumption | exact jKi.zero (by omega) (by omega) (by omega) (by omega) (by omega) | (intro _; rw [hk0]; have h9 := (hp0 0 (by omega) (by omega)).1; exact ⟨by omega, by omega, by omega⟩) | exact hr_15_6 | (intro h9; rw [show (0).toInt = (zz_none).toInt + 1 by omega]; have h8 := s4 (by omega); exact ⟨by omega, by omega, by omega⟩)), (by first | assumption | exact jKi.zero (by omega) (by omega) (by omega) (by omega) (by omega) | (intro _; rw [hk0]; have h9 := (hp0 0 (by omega) (by omega)).1; exact ⟨by omega, by omega, by omega⟩) | exact hr_15_6 | (intro h9; rw [show (0).toInt = (zz_none).toInt + 1 by omega]; have h8 := s4 (by omega); exact ⟨by omega, by omega, by omega⟩) | omega), (by first | omega | rfl | assumption | exact jKi.zero (by omega) (by omega) (by omega) (by omega) (by omega) | (intro _; rw [hk0]; have h9 := (hp0 0 (by omega) (by omega)).1; exact ⟨by omega, by omega, by omega⟩) | exact hr_15_6 | (intro h9; rw [show (0).toInt = (zz_none).toInt + 1 by omega]; have h8 := s4 (by omega); exact ⟨by omega, by omega, by omega⟩)), (by first | omega | rfl | assumption | exact jKi.zero (by omega) (by omega) (by omega) (by omega) (by omega) | (intro _; rw [hk0]; have h9 := (hp0 0 (by omega) (by omega)).1; exact ⟨by omega, by omega, by omega⟩) | exact hr_15_6 | (intro h9; rw [show (0).toInt = (zz_none).toInt + 1 by omega]; have h8 := s4 (by omega); exact ⟨by omega, by omega, by omega⟩)), (by first | omega | rfl | assumption | exact jKi.zero (by omega) (by omega) (by omega) (by omega) (by omega) | (intro _; rw [hk0]; have h9 := (hp0 0 (by omega) (by omega)).1; exact ⟨by omega, by omega, by omega⟩) | exact hr_15_6 | (intro h9; rw [show (0).toInt = (zz_none).toInt + 1 by omega]; have h8 := s4 (by omega); exact ⟨by omega, by omega, by omega⟩)), (by first | omega | rfl | assumption | exact jKi.zero (by omega) (by omega) (by omega) (by omega) (by omega) | (intro _; rw [hk0]; have h9 := (hp0 0 (by omega) (by omega)).1; exact ⟨by omega, by omega, by omega⟩) | exact hr_15_6 | (intro h9; rw [show (0).toInt = (zz_none).toInt + 1 by omega]; have h8 := s4 (by omega); exact ⟨by omega, by omega, by omega⟩)), (by first | omega | rfl | assumption | exact jKi.zero (by omega) (by omega) (by omega) (by omega) (by omega) | (intro _; rw [hk0]; have h9 := (hp0 0 (by omega) (by omega)).1; exact ⟨by omega, by omega, by omega⟩) | exact hr_15_6 | (intro h9; rw [show (0).toInt = (zz_none).toInt + 1 by omega]; have h8 := s4 (by omega); exact ⟨by omega, by omega, by omega⟩)), (by first | omega | rfl | assumption | exact jKi.zero (by omega) (by omega) (by omega) (by omega) (by omega) | (intro _; rw [hk0]; have h9 := (hp0 0 (by omega) (by omega)).1; exact ⟨by omega, by omega, by omega⟩) | exact hr_15_6 | (intro h9; rw [show (0).toInt = (zz_none).toInt + 1 by omega]; have h8 := s4 (by omega); exact ⟨by omega, by omega, by omega⟩)), (by first | assumption | exact jKi.zero (by omega) (by omega) (by omega) (by omega) (by omega) | (intro _; rw [hk0]; have h9 := (hp0 0 (by omega) (by omega)).1; exact ⟨by omega, by omega, by omega⟩) | exact hr_15_6 | (intro h9; rw [show (0).toInt = (zz_none).toInt + 1 by omega]; have h8 := s4 (by omega); exact ⟨by omega, by omega, by omega⟩) | omega)⟩) (by omega) _ (lv_sub hl [1, 2, 3, 0] rfl)
end
