theorem dX13_printFormula_0 : decode cX13_printFormula 0 = .ok (.aload_n 0, 1) := by decide +kernel
theorem dX13_printFormula_1 : decode cX13_printFormula 1 = .ok (.iconst 0, 1) := by decide +kernel
theorem dX13_printFormula_2 : decode cX13_printFormula 2 = .ok (.putfield 388, 3) := by decide +kernel
theorem dX13_printFormula_5 : decode cX13_printFormula 5 = .ok (.aload_n 0, 1) := by decide +kernel
theorem dX13_printFormula_6 : decode cX13_printFormula 6 = .ok (.iload_n 1, 1) := by decide +kernel
theorem dX13_printFormula_7 : decode cX13_printFormula 7 = .ok (.iconst 1, 1) := by decide +kernel
theorem dX13_printFormula_8 : decode cX13_printFormula 8 = .ok (.invokevirtual 408, 3) := by decide +kernel
theorem dX13_printFormula_11 : decode cX13_printFormula 11 = .ok (.return_, 1) := by decide +kernel
theorem dX13_printGoal_0 : decode cX13_printGoal 0 = .ok (.iconst 0, 1) := by decide +kernel
theorem dX13_printGoal_1 : decode cX13_printGoal 1 = .ok (.istore_n 2, 1) := by decide +kernel
theorem dX13_printGoal_2 : decode cX13_printGoal 2 = .ok (.iload_n 2, 1) := by decide +kernel
theorem dX13_printGoal_3 : decode cX13_printGoal 3 = .ok (.aload_n 0, 1) := by decide +kernel
theorem dX13_printGoal_4 : decode cX13_printGoal 4 = .ok (.getfield 56, 3) := by decide +kernel
theorem dX13_printGoal_7 : decode cX13_printGoal 7 = .ok (.iload_n 1, 1) := by decide +kernel
theorem dX13_printGoal_8 : decode cX13_printGoal 8 = .ok (.iaload, 1) := by decide +kernel
theorem dX13_printGoal_9 : decode cX13_printGoal 9 = .ok (.if_icmp .ge 30, 3) := by decide +kernel
theorem dX13_printGoal_12 : decode cX13_printGoal 12 = .ok (.aload_n 0, 1) := by decide +kernel
theorem dX13_printGoal_13 : decode cX13_printGoal 13 = .ok (.aload_n 0, 1) := by decide +kernel
theorem dX13_printGoal_14 : decode cX13_printGoal 14 = .ok (.getfield 59, 3) := by decide +kernel
theorem dX13_printGoal_17 : decode cX13_printGoal 17 = .ok (.bipush 6, 2) := by decide +kernel
theorem dX13_printGoal_19 : decode cX13_printGoal 19 = .ok (.iload_n 1, 1) := by decide +kernel
theorem dX13_printGoal_20 : decode cX13_printGoal 20 = .ok (.imul, 1) := by decide +kernel
theorem dX13_printGoal_21 : decode cX13_printGoal 21 = .ok (.iload_n 2, 1) := by decide +kernel
theorem dX13_printGoal_22 : decode cX13_printGoal 22 = .ok (.iadd, 1) := by decide +kernel
theorem dX13_printGoal_23 : decode cX13_printGoal 23 = .ok (.iaload, 1) := by decide +kernel
theorem dX13_printGoal_24 : decode cX13_printGoal 24 = .ok (.invokevirtual 381, 3) := by decide +kernel
theorem dX13_printGoal_27 : decode cX13_printGoal 27 = .ok (.aload_n 0, 1) := by decide +kernel
theorem dX13_printGoal_28 : decode cX13_printGoal 28 = .ok (.bipush 32, 2) := by decide +kernel
theorem dX13_printGoal_30 : decode cX13_printGoal 30 = .ok (.invokevirtual 378, 3) := by decide +kernel
theorem dX13_printGoal_33 : decode cX13_printGoal 33 = .ok (.iinc 2 1, 3) := by decide +kernel
theorem dX13_printGoal_36 : decode cX13_printGoal 36 = .ok (.goto (-34), 3) := by decide +kernel
theorem dX13_printGoal_39 : decode cX13_printGoal 39 = .ok (.iconst 0, 1) := by decide +kernel
theorem dX13_printGoal_40 : decode cX13_printGoal 40 = .ok (.istore_n 2, 1) := by decide +kernel
theorem dX13_printGoal_41 : decode cX13_printGoal 41 = .ok (.iload_n 2, 1) := by decide +kernel
theorem dX13_printGoal_42 : decode cX13_printGoal 42 = .ok (.aload_n 0, 1) := by decide +kernel
theorem dX13_printGoal_43 : decode cX13_printGoal 43 = .ok (.getfield 62, 3) := by decide +kernel
theorem dX13_printGoal_46 : decode cX13_printGoal 46 = .ok (.iload_n 1, 1) := by decide +kernel
theorem dX13_printGoal_47 : decode cX13_printGoal 47 = .ok (.iaload, 1) := by decide +kernel
theorem dX13_printGoal_48 : decode cX13_printGoal 48 = .ok (.if_icmp .ge 53, 3) := by decide +kernel
theorem dX13_printGoal_51 : decode cX13_printGoal 51 = .ok (.aload_n 0, 1) := by decide +kernel
theorem dX13_printGoal_52 : decode cX13_printGoal 52 = .ok (.aload_n 0, 1) := by decide +kernel
theorem dX13_printGoal_53 : decode cX13_printGoal 53 = .ok (.getfield 65, 3) := by decide +kernel
theorem dX13_printGoal_56 : decode cX13_printGoal 56 = .ok (.bipush 8, 2) := by decide +kernel
theorem dX13_printGoal_58 : decode cX13_printGoal 58 = .ok (.iload_n 1, 1) := by decide +kernel
theorem dX13_printGoal_59 : decode cX13_printGoal 59 = .ok (.imul, 1) := by decide +kernel
theorem dX13_printGoal_60 : decode cX13_printGoal 60 = .ok (.iload_n 2, 1) := by decide +kernel
theorem dX13_printGoal_61 : decode cX13_printGoal 61 = .ok (.iadd, 1) := by decide +kernel
theorem dX13_printGoal_62 : decode cX13_printGoal 62 = .ok (.iaload, 1) := by decide +kernel
theorem dX13_printGoal_63 : decode cX13_printGoal 63 = .ok (.invokevirtual 381, 3) := by decide +kernel
theorem dX13_printGoal_66 : decode cX13_printGoal 66 = .ok (.aload_n 0, 1) := by decide +kernel
theorem dX13_printGoal_67 : decode cX13_printGoal 67 = .ok (.ldc_w 429, 3) := by decide +kernel
theorem dX13_printGoal_70 : decode cX13_printGoal 70 = .ok (.invokevirtual 400, 3) := by decide +kernel
theorem dX13_printGoal_73 : decode cX13_printGoal 73 = .ok (.aload_n 0, 1) := by decide +kernel
theorem dX13_printGoal_74 : decode cX13_printGoal 74 = .ok (.aload_n 0, 1) := by decide +kernel
theorem dX13_printGoal_75 : decode cX13_printGoal 75 = .ok (.getfield 68, 3) := by decide +kernel
theorem dX13_printGoal_78 : decode cX13_printGoal 78 = .ok (.bipush 8, 2) := by decide +kernel
theorem dX13_printGoal_80 : decode cX13_printGoal 80 = .ok (.iload_n 1, 1) := by decide +kernel
theorem dX13_printGoal_81 : decode cX13_printGoal 81 = .ok (.imul, 1) := by decide +kernel
theorem dX13_printGoal_82 : decode cX13_printGoal 82 = .ok (.iload_n 2, 1) := by decide +kernel
theorem dX13_printGoal_83 : decode cX13_printGoal 83 = .ok (.iadd, 1) := by decide +kernel
theorem dX13_printGoal_84 : decode cX13_printGoal 84 = .ok (.iaload, 1) := by decide +kernel
theorem dX13_printGoal_85 : decode cX13_printGoal 85 = .ok (.invokevirtual 431, 3) := by decide +kernel
theorem dX13_printGoal_88 : decode cX13_printGoal 88 = .ok (.aload_n 0, 1) := by decide +kernel
theorem dX13_printGoal_89 : decode cX13_printGoal 89 = .ok (.ldc_w 427, 3) := by decide +kernel
theorem dX13_printGoal_92 : decode cX13_printGoal 92 = .ok (.invokevirtual 400, 3) := by decide +kernel
theorem dX13_printGoal_95 : decode cX13_printGoal 95 = .ok (.iinc 2 1, 3) := by decide +kernel
theorem dX13_printGoal_98 : decode cX13_printGoal 98 = .ok (.goto (-57), 3) := by decide +kernel
theorem dX13_printGoal_101 : decode cX13_printGoal 101 = .ok (.aload_n 0, 1) := by decide +kernel
theorem dX13_printGoal_102 : decode cX13_printGoal 102 = .ok (.ldc_w 434, 3) := by decide +kernel
theorem dX13_printGoal_105 : decode cX13_printGoal 105 = .ok (.invokevirtual 400, 3) := by decide +kernel
theorem dX13_printGoal_108 : decode cX13_printGoal 108 = .ok (.aload_n 0, 1) := by decide +kernel
theorem dX13_printGoal_109 : decode cX13_printGoal 109 = .ok (.aload_n 0, 1) := by decide +kernel
theorem dX13_printGoal_110 : decode cX13_printGoal 110 = .ok (.getfield 53, 3) := by decide +kernel
theorem dX13_printGoal_113 : decode cX13_printGoal 113 = .ok (.iload_n 1, 1) := by decide +kernel
theorem dX13_printGoal_114 : decode cX13_printGoal 114 = .ok (.iaload, 1) := by decide +kernel
theorem dX13_printGoal_115 : decode cX13_printGoal 115 = .ok (.invokevirtual 431, 3) := by decide +kernel
theorem dX13_printGoal_118 : decode cX13_printGoal 118 = .ok (.return_, 1) := by decide +kernel
def EX13_printFormula : List (Nat × Nat) := [(15, 46), (15, 49), (101, 0), (163, 0), (164, 0)]
def EX13_printGoal : List (Nat × Nat) := [(15, 46), (15, 49), (101, 0), (163, 0), (164, 0)]
set_option maxHeartbeats 4000000 in
set_option maxRecDepth 20000 in
theorem uX13_printFormula (l : Launch) (dC : Nat → ClassId) (dI : Nat → Nat → Nat) (ca : Nat → ClassId) (base : Nat) (B : jF) (hB : jBok B) (hAp : jAp (dC, dI)) (hB15 : ∀ n G a H, B 15 n G a H ↔ jOb (dC, dI) 15 50 (F15 n G) a H) (hB101 : ∀ n G a H, B 101 n G a H ↔ jAr (dC, dI) (ca 1) (fun j z => True) n a H) (hB150 : ∀ n G a H, B 150 n G a H ↔ jAr (dC, dI) (ca 1) (fun j z => True) n a H) (hB151 : ∀ n G a H, B 151 n G a H ↔ jAr (dC, dI) (ca 1) (fun j z => True) n a H) (hB152 : ∀ n G a H, B 152 n G a H ↔ jAr (dC, dI) (ca 1) (fun j z => True) n a H) (hB153 : ∀ n G a H, B 153 n G a H ↔ jAr (dC, dI) (ca 1) (fun j z => True) n a H) (hB154 : ∀ n G a H, B 154 n G a H ↔ jAr (dC, dI) (ca 1) (fun j z => True) n a H) (hB155 : ∀ n G a H, B 155 n G a H ↔ jAr (dC, dI) (ca 1) (fun j z => 0 ≤ z.toInt ∧ z.toInt ≤ 11990) n a H) (hB156 : ∀ n G a H, B 156 n G a H ↔ jAr (dC, dI) (ca 1) (fun j z => 0 ≤ z.toInt ∧ z.toInt ≤ 10) n a H) (hB163 : ∀ n G a H, B 163 n G a H ↔ jAr (dC, dI) (ca 1) (fun j z => 0 ≤ z.toInt ∧ z.toInt ≤ 1599) n a H) (hB164 : ∀ n G a H, B 164 n G a H ↔ jAr (dC, dI) (ca 1) (fun j z => 0 ≤ z.toInt ∧ z.toInt ≤ 100000) n a H) (hB165 : ∀ n G a H, B 165 n G a H ↔ jAr (dC, dI) (ca 1) (fun j z => 0 ≤ z.toInt ∧ z.toInt ≤ 3) n a H) (hB166 : ∀ n G a H, B 166 n G a H ↔ jAr (dC, dI) (ca 1) (fun j z => True) n a H) (G0 : jT) (H0 : Heap) (r0 : Nat) (a1 : Int32) (zs : Nat) (zn : Nat) (za : Nat) (zb : Nat) (zc : Nat) (zy : Nat) (C : jK) : Met l yX13_printFormula (jw yX13_printFormula cX13_printFormula 2 none) ({ frames := 251, cells := 0, slots := 0, locals := 8223 }) (va_Pc [.ref r0, .int a1] (fun U => U.heap = H0 ∧ jX B base G0 [] H0 ∧ jG dC dI ca base U ∧ G0 r0 = some (15, 0) ∧ G0 zs = some (150, 120000) ∧ G0 zn = some (151, 120000) ∧ G0 za = some (152, 120000) ∧ G0 zb = some (153, 120000) ∧ G0 zc = some (154, 120000) ∧ G0 zy = some (165, 16) ∧ jP (dC, dI) G0 H0 [(r0, 15, 0, .ref zs), (r0, 15, 1, .ref zn), (r0, 15, 2, .ref za), (r0, 15, 3, .ref zb), (r0, 15, 4, .ref zc), (r0, 15, 14, .ref zy)] ∧ jMc (dC, dI) G0 H0 [(zs, 150, 120000, ca 1, C.s), (zn, 151, 120000, ca 1, C.n), (za, 152, 120000, ca 1, C.a), (zb, 153, 120000, ca 1, C.b), (zc, 154, 120000, ca 1, C.c), (zy, 165, 16, ca 1, C.y)] ∧ jFm C 120000 16 80 0 a1.toInt)) (va_Qv (S := Unit) (fun u => True) (fun u t => jRt (dC, dI) B base G0 EX13_printFormula H0 [] t.heap) (jA base)) 0 0 (jA base) := by
  refine Met.ofW (cc := cX13_printFormula) (maxL := 2) (ret := none) (by decide) rfl ?_
  intro p e s m args below meth c s₁ Bd hml hv
  obtain ⟨rfl, hH0, hX, hG, hg_r0, hg_zs, hg_zn, hg_za, hg_zb, hg_zc, hg_zy, hP0, hM0, hp0⟩ := hv
  have hK := hG.1
  have hx := Bd.exec
  have hb := Bd.bytes
  have hr := Bd.returns
  have hts := atoms_spec (ws := (jw yX13_printFormula cX13_printFormula 2 none)) Bd.pre
  have htw : ∀ w ∈ jWl, w.before _ s = true := fun w h => hts w (List.mem_cons_of_mem _ h)
  have hown : s.vm.findClass RX13 = some m.cls := findClass_of_methodNamed Bd.named
  have hlocks := Bd.notSynchronized
  obtain ⟨Q, hQ⟩ : ∃ Q, Q = MQ below (va_Qv (S := Unit) (fun u => True) (fun u t => jRt (dC, dI) B base G0 EX13_printFormula H0 [] t.heap) (jA base)) ([.ref r0, .int a1] : List Value).toArray s 0 0 (jA base) := ⟨_, rfl⟩
  rw [← hQ]
  have hl := lv_entry ([.ref r0, .int a1]) (n := 2) (Nat.le_of_ble_eq_true rfl)
  rw [lg_entry_eq]
  generalize (lg_sl ([.ref r0, .int a1]) ++ List.replicate (2 - (lg_sl ([.ref r0, .int a1])).length) Slot.unset).toArray = ls at hl ⊢
  have hl : lv_has ls 2 [(0, .ref r0), (1, .int a1)] := hl
  generalize hR : (headSpec (jw yX13_printFormula cX13_printFormula 2 none) ({ frames := 251, cells := 0, slots := 0, locals := 8223 })).room = R
  subst hH0
  have hh : jSt (dC, dI) B base G0 G0 EX13_printFormula s.heap 0 0 [(r0, 15, 0, .ref zs), (r0, 15, 1, .ref zn), (r0, 15, 2, .ref za), (r0, 15, 3, .ref zb), (r0, 15, 4, .ref zc), (r0, 15, 14, .ref zy)] [(zs, 150, 120000, ca 1, C.s), (zn, 151, 120000, ca 1, C.n), (za, 152, 120000, ca 1, C.a), (zb, 153, 120000, ca 1, C.b), (zc, 154, 120000, ca 1, C.c), (zy, 165, 16, ca 1, C.y)] [] s.heap [] := jSt.start hX hP0 hM0 jIs.nil
  clear hX hP0
  have hk0 : (0 : Int32).toInt = 0 := by decide
  have hk1 : (1 : Int32).toInt = 1 := by decide
  have hly_15_49 := htw (u_lay RX13 TX13 49) (jWc_wsX130 _ (u_in_lay (by decide)))
  have hlk_388 := (htw (.fieldLink RX13 388 "ProofServerModel$Kernel" "written" "I") (jWr_71 _ (List.mem_of_getElem? (i := 4) rfl)))
  have hrg_a1 := jb_rng a1
  refine lv_aload_n hx hb dX13_printFormula_0 rfl (lv_at hl 0 rfl) ?_
  refine lv_iconst (v := 0) hx hb dX13_printFormula_1 (by decide) ?_
  refine j7_put hx hb hown hK hh hB hAp hB15 (C := RX13) (T := TX13) (N := 50) rfl (by decide) hg_r0 (i := 49) (by decide) hly_15_49 rfl hlk_388 rfl (ty := .int) (v := .int 0) (by decide +kernel) rfl rfl (⟨_, rfl, by omega, by omega⟩) rfl (L1 := [(r0, 15, 0, .ref zs), (r0, 15, 1, .ref zn), (r0, 15, 2, .ref za), (r0, 15, 3, .ref zb), (r0, 15, 4, .ref zc), (r0, 15, 14, .ref zy)]) [0, 1, 2, 3, 4, 5] rfl rfl rfl dX13_printFormula_2 (fun H_1 locs_1 hh_1 => ?_)
  clear hh
  refine lv_aload_n hx hb dX13_printFormula_5 rfl (lv_at hl 0 rfl) ?_
  refine lv_iload_n hx hb dX13_printFormula_6 rfl (lv_at hl 1 rfl) ?_
  refine lv_iconst (v := 1) hx hb dX13_printFormula_7 (by decide) ?_
  obtain ⟨v_4, hv_4, hh_5⟩ := hh_1.pin (C := RX13) (T := TX13) (N := 50) hB15 rfl (by decide) hg_r0 (i := 48) (by decide) rfl
  obtain ⟨writtenMarks_6, rfl, hg_writtenMarks_6⟩ := hv_4
  obtain ⟨f_fm_7, hh_7⟩ := hh_5.cpin hB164 (by decide) (by decide) hg_writtenMarks_6
  clear hh_5
  refine va_callv (A0 := jA base) (H0 := s.heap) (va_runV (As := [.int a1, .int 1]) (rest := []) ⟨hx, hb, hml, hown, hts⟩ ((aX13_print l dC dI ca base B hB hAp hB15 hB101 hB150 hB151 hB152 hB153 hB154 hB155 hB156 hB163 hB164 hB165 hB166 80).1 G0 H_1 r0 a1 1 0 writtenMarks_6 zs zn za zb zc zy 0 f_fm_7 C) (cwV 2 hts (jgV (jWr_71 _ (List.mem_of_getElem? (i := 5) rfl)) (jWr_71 _ (List.mem_of_getElem? (i := 6) rfl)) (jWr_71 _ (List.mem_of_getElem? (i := 7) rfl)) (jWr_12 _ (List.mem_of_getElem? (i := 12) rfl)) (jWr_71 _ (List.mem_of_getElem? (i := 8) rfl))) rfl rfl rfl (by decide +kernel) ⟨by rw [← hR]; exact Nat.le_of_ble_eq_true rfl, by rw [← hR]; exact Nat.le_of_ble_eq_true rfl⟩) ⟨fun a U g mk q => by obtain ⟨q0, q1, q2, qK, q10, q11, q12, q13, q14, q15, q16, q17, q18, q19, q20, q21⟩ := q; exact ⟨q0, q1, q2, jG.calling g mk a qK, q10, q11, q12, q13, q14, q15, q16, q17, q18, q19, q20, q21⟩, hh_7.recv (C := RX13) (T := TX13) (N := 50) hB15 rfl (by decide) hg_r0 hK, fun U hU hW => ⟨rfl, hU, hh_7.2.1, hG.step hW hU hh_7.1, hg_r0, (Or.inr rfl), hg_writtenMarks_6, hg_zs, hg_zn, hg_za, hg_zb, hg_zc, hg_zy, (hh_7.2.2.1.sub (L1 := [(r0, 15, 49, .int 0), (r0, 15, 48, .ref writtenMarks_6), (r0, 15, 0, .ref zs), (r0, 15, 1, .ref zn), (r0, 15, 2, .ref za), (r0, 15, 3, .ref zb), (r0, 15, 4, .ref zc), (r0, 15, 14, .ref zy)]) [1, 0, 2, 3, 4, 5, 6, 7] rfl), (hh_7.2.2.2.2.2.2.2.1.sub (L1 := [(writtenMarks_6, 164, 100, ca 1, f_fm_7), (zs, 150, 120000, ca 1, C.s), (zn, 151, 120000, ca 1, C.n), (za, 152, 120000, ca 1, C.a), (zb, 153, 120000, ca 1, C.b), (zc, 154, 120000, ca 1, C.c), (zy, 165, 16, ca 1, C.y)]) [0, 1, 2, 3, 4, 5, 6] rfl), ⟨(by first | assumption | (rw [hk0]; exact hp0) | exact (fun k q0 q1 => absurd q1 (by omega)) | omega), (by first | assumption | (rw [hk0]; exact hp0) | exact (fun k q0 q1 => absurd q1 (by omega)) | omega), (by first | omega | rfl | assumption | (rw [hk0]; exact hp0) | exact (fun k q0 q1 => absurd q1 (by omega))), (by first | omega | rfl | assumption | (rw [hk0]; exact hp0) | exact (fun k q0 q1 => absurd q1 (by omega))), (by first | omega | rfl | assumption | (rw [hk0]; exact hp0) | exact (fun k q0 q1 => absurd q1 (by omega))), (by first | omega | rfl | assumption | (rw [hk0]; exact hp0) | exact (fun k q0 q1 => absurd q1 (by omega))), (by first | omega | rfl | assumption | (rw [hk0]; exact hp0) | exact (fun k q0 q1 => absurd q1 (by omega)))⟩⟩⟩ rfl rfl hl.1 rfl (lv_room (Nat.le_of_ble_eq_true rfl)) dX13_printFormula_8 ⟨Nat.zero_le _, Nat.zero_le _⟩) hh_7.1 (fun q _ h => h) (fun q h => h) (fun u_2 t_2 H_2 locs_2 ht_2 hvm_2 hr_3 hb_2 hz_2 hk_2 hS_2 => ?_)
  obtain ⟨qv_2, gm_2⟩ := u_2
  rw [ht_2] at hb_2
  obtain ⟨⟨hb_21, hb_22, hb_23, hb_24, hb_25⟩, hb_26⟩ := hb_2
  have hh_2 : jSt (dC, dI) B base G0 G0 EX13_printFormula s.heap 0 0 [(r0, 15, 49, .int qv_2), (r0, 15, 48, .ref writtenMarks_6), (r0, 15, 0, .ref zs), (r0, 15, 1, .ref zn), (r0, 15, 2, .ref za), (r0, 15, 3, .ref zb), (r0, 15, 4, .ref zc), (r0, 15, 14, .ref zy)] [(writtenMarks_6, 164, 100, ca 1, gm_2), (zs, 150, 120000, ca 1, C.s), (zn, 151, 120000, ca 1, C.n), (za, 152, 120000, ca 1, C.a), (zb, 153, 120000, ca 1, C.b), (zc, 154, 120000, ca 1, C.c), (zy, 165, 16, ca 1, C.y)] [] H_2 locs_2 := ((hh_7.call hb_21 hb_22 hb_23 hb_24 hS_2 rfl (L1 := [(r0, 15, 48, .ref writtenMarks_6), (r0, 15, 0, .ref zs), (r0, 15, 1, .ref zn), (r0, 15, 2, .ref za), (r0, 15, 3, .ref zb), (r0, 15, 4, .ref zc), (r0, 15, 14, .ref zy)]) [0, 2, 3, 4, 5, 6, 7] rfl rfl (M1 := [(zs, 150, 120000, ca 1, C.s), (zn, 151, 120000, ca 1, C.n), (za, 152, 120000, ca 1, C.a), (zb, 153, 120000, ca 1, C.b), (zc, 154, 120000, ca 1, C.c), (zy, 165, 16, ca 1, C.y)]) [1, 2, 3, 4, 5, 6] rfl rfl (I1 := []) [] rfl rfl).more hb_25).moreM hb_26
  clear hh_7 ht_2 hvm_2 hz_2 hk_2 hS_2 hb_21 hb_22 hb_23 hb_24 hb_25
  clear hb_26
  try simp only at hr_3
  obtain ⟨hr_3_0, hr_3_1⟩ := hr_3
  rw [hQ]
  exact W.vret hx hb hr (fun t ht hW => ⟨⟨(), rfl, trivial, hh_2.rt (M1 := []) [] rfl ht⟩, by rw [ht]; try exact hh_2.1.1, fun q h9 hq => by rw [ht]; try exact hh_2.1.2.1 q h9 hq⟩) hh_2.1.2.2 dX13_printFormula_11
set_option maxHeartbeats 4000000 in
set_option maxRecDepth 20000 in
theorem uX13_printGoal (l : Launch) (dC : Nat → ClassId) (dI : Nat → Nat → Nat) (ca : Nat → ClassId) (base : Nat) (B : jF) (hB : jBok B) (hAp : jAp (dC, dI)) (hB15 : ∀ n G a H, B 15 n G a H ↔ jOb (dC, dI) 15 50 (F15 n G) a H) (hB101 : ∀ n G a H, B 101 n G a H ↔ jAr (dC, dI) (ca 1) (fun j z => True) n a H) (hB150 : ∀ n G a H, B 150 n G a H ↔ jAr (dC, dI) (ca 1) (fun j z => True) n a H) (hB151 : ∀ n G a H, B 151 n G a H ↔ jAr (dC, dI) (ca 1) (fun j z => True) n a H) (hB152 : ∀ n G a H, B 152 n G a H ↔ jAr (dC, dI) (ca 1) (fun j z => True) n a H) (hB153 : ∀ n G a H, B 153 n G a H ↔ jAr (dC, dI) (ca 1) (fun j z => True) n a H) (hB154 : ∀ n G a H, B 154 n G a H ↔ jAr (dC, dI) (ca 1) (fun j z => True) n a H) (hB155 : ∀ n G a H, B 155 n G a H ↔ jAr (dC, dI) (ca 1) (fun j z => 0 ≤ z.toInt ∧ z.toInt ≤ 11990) n a H) (hB156 : ∀ n G a H, B 156 n G a H ↔ jAr (dC, dI) (ca 1) (fun j z => 0 ≤ z.toInt ∧ z.toInt ≤ 10) n a H) (hB158 : ∀ n G a H, B 158 n G a H ↔ jAr (dC, dI) (ca 1) (fun j z => 0 ≤ z.toInt ∧ z.toInt ≤ 6) n a H) (hB159 : ∀ n G a H, B 159 n G a H ↔ jAr (dC, dI) (ca 1) (fun j z => 0 ≤ z.toInt ∧ z.toInt ≤ 8) n a H) (hB161 : ∀ n G a H, B 161 n G a H ↔ jAr (dC, dI) (ca 1) (fun j z => 0 ≤ z.toInt ∧ z.toInt ≤ 119999) n a H) (hB162 : ∀ n G a H, B 162 n G a H ↔ jAr (dC, dI) (ca 1) (fun j z => 0 ≤ z.toInt ∧ z.toInt ≤ 119999) n a H) (hB163 : ∀ n G a H, B 163 n G a H ↔ jAr (dC, dI) (ca 1) (fun j z => 0 ≤ z.toInt ∧ z.toInt ≤ 1599) n a H) (hB164 : ∀ n G a H, B 164 n G a H ↔ jAr (dC, dI) (ca 1) (fun j z => 0 ≤ z.toInt ∧ z.toInt ≤ 100000) n a H) (hB165 : ∀ n G a H, B 165 n G a H ↔ jAr (dC, dI) (ca 1) (fun j z => 0 ≤ z.toInt ∧ z.toInt ≤ 3) n a H) (hB166 : ∀ n G a H, B 166 n G a H ↔ jAr (dC, dI) (ca 1) (fun j z => True) n a H) (G0 : jT) (H0 : Heap) (r0 : Nat) (a1 : Int32) (zg : Nat) (zh : Nat) (zp : Nat) (zs : Nat) (zn : Nat) (za : Nat) (zb : Nat) (zc : Nat) (zy : Nat) (gN : Int) (gY : Int) (fg : Nat → Int32) (fh : Nat → Int32) (fp : Nat → Int32) (C : jK) : Met l yX13_printGoal (jw yX13_printGoal cX13_printGoal 3 none) ({ frames := 252, cells := 0, slots := 0, locals := 8244 }) (va_Pc [.ref r0, .int a1] (fun U => U.heap = H0 ∧ jX B base G0 [] H0 ∧ jG dC dI ca base U ∧ G0 r0 = some (15, 0) ∧ G0 zg = some (161, 46) ∧ G0 zh = some (159, 46) ∧ G0 zp = some (162, 368) ∧ G0 zs = some (150, 120000) ∧ G0 zn = some (151, 120000) ∧ G0 za = some (152, 120000) ∧ G0 zb = some (153, 120000) ∧ G0 zc = some (154, 120000) ∧ G0 zy = some (165, 16) ∧ jP (dC, dI) G0 H0 [(r0, 15, 22, .ref zg), (r0, 15, 25, .ref zh), (r0, 15, 27, .ref zp), (r0, 15, 0, .ref zs), (r0, 15, 1, .ref zn), (r0, 15, 2, .ref za), (r0, 15, 3, .ref zb), (r0, 15, 4, .ref zc), (r0, 15, 14, .ref zy)] ∧ jMc (dC, dI) G0 H0 [(zg, 161, 46, ca 1, fg), (zh, 159, 46, ca 1, fh), (zp, 162, 368, ca 1, fp), (zs, 150, 120000, ca 1, C.s), (zn, 151, 120000, ca 1, C.n), (za, 152, 120000, ca 1, C.a), (zb, 153, 120000, ca 1, C.b), (zc, 154, 120000, ca 1, C.c), (zy, 165, 16, ca 1, C.y)] ∧ jSl (jG1 C gN gY) fg fh fp a1.toInt ∧ 0 ≤ a1.toInt ∧ a1.toInt ≤ 45 ∧ gN ≤ 120000 ∧ gY ≤ 16)) (va_Qv (S := Unit) (fun u => True) (fun u t => jRt (dC, dI) B base G0 EX13_printGoal H0 [] t.heap) (jA base)) 0 0 (jA base) := by
  refine Met.ofW (cc := cX13_printGoal) (maxL := 3) (ret := none) (by decide) rfl ?_
  intro p e s m args below meth c s₁ Bd hml hv
  obtain ⟨rfl, hH0, hX, hG, hg_r0, hg_zg, hg_zh, hg_zp, hg_zs, hg_zn, hg_za, hg_zb, hg_zc, hg_zy, hP0, hM0, hp0, hp1, hp2, hp3, hp4⟩ := hv
  have hK := hG.1
  have hx := Bd.exec
  have hb := Bd.bytes
  have hr := Bd.returns
  have hts := atoms_spec (ws := (jw yX13_printGoal cX13_printGoal 3 none)) Bd.pre
  have htw : ∀ w ∈ jWl, w.before _ s = true := fun w h => hts w (List.mem_cons_of_mem _ h)
  have hown : s.vm.findClass RX13 = some m.cls := findClass_of_methodNamed Bd.named
  have hlocks := Bd.notSynchronized
  obtain ⟨Q, hQ⟩ : ∃ Q, Q = MQ below (va_Qv (S := Unit) (fun u => True) (fun u t => jRt (dC, dI) B base G0 EX13_printGoal H0 [] t.heap) (jA base)) ([.ref r0, .int a1] : List Value).toArray s 0 0 (jA base) := ⟨_, rfl⟩
  rw [← hQ]
  have hl := lv_entry ([.ref r0, .int a1]) (n := 3) (Nat.le_of_ble_eq_true rfl)
  rw [lg_entry_eq]
  generalize (lg_sl ([.ref r0, .int a1]) ++ List.replicate (3 - (lg_sl ([.ref r0, .int a1])).length) Slot.unset).toArray = ls at hl ⊢
  have hl : lv_has ls 3 [(0, .ref r0), (1, .int a1)] := hl
  generalize hR : (headSpec (jw yX13_printGoal cX13_printGoal 3 none) ({ frames := 252, cells := 0, slots := 0, locals := 8244 })).room = R
  subst hH0
  have hh : jSt (dC, dI) B base G0 G0 EX13_printGoal s.heap 0 0 [(r0, 15, 22, .ref zg), (r0, 15, 25, .ref zh), (r0, 15, 27, .ref zp), (r0, 15, 0, .ref zs), (r0, 15, 1, .ref zn), (r0, 15, 2, .ref za), (r0, 15, 3, .ref zb), (r0, 15, 4, .ref zc), (r0, 15, 14, .ref zy)] [(zg, 161, 46, ca 1, fg), (zh, 159, 46, ca 1, fh), (zp, 162, 368, ca 1, fp), (zs, 150, 120000, ca 1, C.s), (zn, 151, 120000, ca 1, C.n), (za, 152, 120000, ca 1, C.a), (zb, 153, 120000, ca 1, C.b), (zc, 154, 120000, ca 1, C.c), (zy, 165, 16, ca 1, C.y)] [] s.heap [] := jSt.start hX hP0 hM0 jIs.nil
  clear hX hP0
  have hk0 : (0 : Int32).toInt = 0 := by decide
  have hk1 : (1 : Int32).toInt = 1 := by decide
  have hk6 : (6 : Int32).toInt = 6 := by decide
  have hk8 : (8 : Int32).toInt = 8 := by decide
  have hk32 : (32 : Int32).toInt = 32 := by decide
  have hly_15_22 := htw (u_lay RX13 TX13 22) (jWc_wsX130 _ (u_in_lay (by decide)))
  have hly_15_23 := htw (u_lay RX13 TX13 23) (jWc_wsX130 _ (u_in_lay (by decide)))
  have hly_15_24 := htw (u_lay RX13 TX13 24) (jWc_wsX130 _ (u_in_lay (by decide)))
  have hly_15_25 := htw (u_lay RX13 TX13 25) (jWc_wsX130 _ (u_in_lay (by decide)))
  have hly_15_26 := htw (u_lay RX13 TX13 26) (jWc_wsX130 _ (u_in_lay (by decide)))
  have hly_15_27 := htw (u_lay RX13 TX13 27) (jWc_wsX130 _ (u_in_lay (by decide)))
  have hlk_56 := (htw (.fieldLink RX13 56 "ProofServerModel$Kernel" "vars" "[I") (jWr_14 _ (List.mem_of_getElem? (i := 23) rfl)))
  have hlk_59 := (htw (.fieldLink RX13 59 "ProofServerModel$Kernel" "varName" "[I") (jWr_15 _ (List.mem_of_getElem? (i := 0) rfl)))
  have hlk_62 := (htw (.fieldLink RX13 62 "ProofServerModel$Kernel" "hyps" "[I") (jWr_15 _ (List.mem_of_getElem? (i := 1) rfl)))
  have hlk_65 := (htw (.fieldLink RX13 65 "ProofServerModel$Kernel" "hypName" "[I") (jWr_15 _ (List.mem_of_getElem? (i := 2) rfl)))
  obtain ⟨str429, rstr429, hstr4290⟩ := hG.str (o := RX13) (k := 429) (tx := " : ") (List.mem_of_getElem? (i := 2824) (by decide +kernel))
  have hstr429 : jStr base str429 3 s s.heap := hstr4290
  have hlk_68 := (htw (.fieldLink RX13 68 "ProofServerModel$Kernel" "hyp" "[I") (jWr_15 _ (List.mem_of_getElem? (i := 3) rfl)))
  obtain ⟨str427, rstr427, hstr4270⟩ := hG.str (o := RX13) (k := 427) (tx := ", ") (List.mem_of_getElem? (i := 2863) (by decide +kernel))
  have hstr427 : jStr base str427 2 s s.heap := hstr4270
  obtain ⟨str434, rstr434, hstr4340⟩ := hG.str (o := RX13) (k := 434) (tx := "|- ") (List.mem_of_getElem? (i := 2868) (by decide +kernel))
  have hstr434 : jStr base str434 3 s s.heap := hstr4340
  have hlk_53 := (htw (.fieldLink RX13 53 "ProofServerModel$Kernel" "goal" "[I") (jWr_14 _ (List.mem_of_getElem? (i := 22) rfl)))
  have hrg_a1 := jb_rng a1
  refine lv_iconst (v := 0) hx hb dX13_printGoal_0 (by decide) ?_
  refine lv_istore_n (lv' := [(2, .int 0), (0, .ref r0), (1, .int a1)]) hx hb dX13_printGoal_1 rfl hl (by decide) rfl (fun ls hl => ?_)
  have L2 : ∀ (N : Nat) (v2_1 : Int32) (H_1 : Heap) (locs_1 : List Loc), jSt (dC, dI) B base G0 G0 EX13_printGoal s.heap 0 0 [(r0, 15, 22, .ref zg), (r0, 15, 25, .ref zh), (r0, 15, 27, .ref zp), (r0, 15, 0, .ref zs), (r0, 15, 1, .ref zn), (r0, 15, 2, .ref za), (r0, 15, 3, .ref zb), (r0, 15, 4, .ref zc), (r0, 15, 14, .ref zy)] [(zg, 161, 46, ca 1, fg), (zh, 159, 46, ca 1, fh), (zp, 162, 368, ca 1, fp), (zs, 150, 120000, ca 1, C.s), (zn, 151, 120000, ca 1, C.n), (za, 152, 120000, ca 1, C.a), (zb, 153, 120000, ca 1, C.b), (zc, 154, 120000, ca 1, C.c), (zy, 165, 16, ca 1, C.y)] [] H_1 locs_1 → (0 ≤ v2_1.toInt ∧ v2_1.toInt ≤ 6) → (6 - v2_1.toInt : Int) < N → ∀ ls : Array Slot, lv_has ls 3 [(0, .ref r0), (1, .int a1), (2, .int v2_1)] → W p l e R s m ([.ref r0, .int a1] : List Value).toArray below meth c H_1 locs_1 0 0 Q (F0 m 2 ls []) := by
    intro N
    induction N with
    | zero => intro v2_1 H_1 locs_1 hh_1  hi_1 hm; exact absurd hm (by omega)
    | succ N L2 =>
      intro v2_1 H_1 locs_1 hh_1  hi_1 hm_1 ls hl
      obtain ⟨hi_1_0, hi_1_1⟩ := hi_1
      refine lv_iload_n hx hb dX13_printGoal_2 rfl (lv_at hl 2 rfl) ?_
      refine lv_aload_n hx hb dX13_printGoal_3 rfl (lv_at hl 0 rfl) ?_
      obtain ⟨v_2, hv_2, hh_3⟩ := hh_1.pin (C := RX13) (T := TX13) (N := 50) hB15 rfl (by decide) hg_r0 (i := 23) (by decide) rfl
      clear hh_1
      obtain ⟨vars_4, rfl, hg_vars_4⟩ := hv_2
      refine j7_read hx hb hown hK (C := RX13) (T := TX13) (N := 50) rfl hly_15_23 hlk_56 (hh_3.at 0 rfl) dX13_printGoal_4 ?_
      refine lv_iload_n hx hb dX13_printGoal_7 rfl (lv_at hl 1 rfl) ?_
      refine j7_iald hx hb hK hh_3 hB158 1 rfl (by decide) hg_vars_4 (x := a1.toInt) (rfl) (by omega) dX13_printGoal_8 (fun z_5 (hz_5 : 0 ≤ z_5.toInt ∧ z_5.toInt ≤ 6) => ?_)
      refine lv_icmp_ge (tgt := 39) hx hb dX13_printGoal_9 (by decide) (fun c_6 => ?_) (fun c_6 => ?_)
      · skip
        have c_6' : v2_1.toInt ≥ z_5.toInt := jb_ge (rfl) (rfl) c_6
        refine lv_iconst (v := 0) hx hb dX13_printGoal_39 (by decide) ?_
        refine lv_istore_n (lv' := [(2, .int 0), (0, .ref r0), (1, .int a1)]) hx hb dX13_printGoal_40 rfl hl (by decide) rfl (fun ls hl => ?_)
        have L41 : ∀ (N : Nat) (v2_7 : Int32) (H_7 : Heap) (locs_7 : List Loc), jSt (dC, dI) B base G0 G0 EX13_printGoal s.heap 0 0 [(r0, 15, 23, .ref vars_4), (r0, 15, 22, .ref zg), (r0, 15, 25, .ref zh), (r0, 15, 27, .ref zp), (r0, 15, 0, .ref zs), (r0, 15, 1, .ref zn), (r0, 15, 2, .ref za), (r0, 15, 3, .ref zb), (r0, 15, 4, .ref zc), (r0, 15, 14, .ref zy)] [(zg, 161, 46, ca 1, fg), (zh, 159, 46, ca 1, fh), (zp, 162, 368, ca 1, fp), (zs, 150, 120000, ca 1, C.s), (zn, 151, 120000, ca 1, C.n), (za, 152, 120000, ca 1, C.a), (zb, 153, 120000, ca 1, C.b), (zc, 154, 120000, ca 1, C.c), (zy, 165, 16, ca 1, C.y)] [] H_7 locs_7 → (0 ≤ v2_7.toInt ∧ v2_7.toInt ≤ 8) → (8 - v2_7.toInt : Int) < N → ∀ ls : Array Slot, lv_has ls 3 [(0, .ref r0), (1, .int a1), (2, .int v2_7)] → W p l e R s m ([.ref r0, .int a1] : List Value).toArray below meth c H_7 locs_7 0 0 Q (F0 m 41 ls []) := by
          intro N
          induction N with
          | zero => intro v2_7 H_7 locs_7 hh_7  hi_7 hm; exact absurd hm (by omega)
          | succ N L41 =>
            intro v2_7 H_7 locs_7 hh_7  hi_7 hm_7 ls hl
            obtain ⟨hi_7_0, hi_7_1⟩ := hi_7
            refine lv_iload_n hx hb dX13_printGoal_41 rfl (lv_at hl 2 rfl) ?_
            refine lv_aload_n hx hb dX13_printGoal_42 rfl (lv_at hl 0 rfl) ?_
            refine j7_read hx hb hown hK (C := RX13) (T := TX13) (N := 50) rfl hly_15_25 hlk_62 (hh_7.at 2 rfl) dX13_printGoal_43 ?_
            refine lv_iload_n hx hb dX13_printGoal_46 rfl (lv_at hl 1 rfl) ?_
            refine j7_ialdM hx hb hK hh_7 hB159 1 rfl (by decide) hg_zh (x := a1.toInt) (rfl) (by omega) (j := 1) rfl dX13_printGoal_47 (fun z_8 ez_8 (hz_8 : 0 ≤ z_8.toInt ∧ z_8.toInt ≤ 8) => ?_)
            have hqz_8 : z_8.toInt = jSo fh (a1.toInt) := by unfold jSo; rw [ez_8]
            refine lv_icmp_ge (tgt := 101) hx hb dX13_printGoal_48 (by decide) (fun c_9 => ?_) (fun c_9 => ?_)
            · skip
              have c_9' : v2_7.toInt ≥ z_8.toInt := jb_ge (rfl) (rfl) c_9
              refine lv_aload_n hx hb dX13_printGoal_101 rfl (lv_at hl 0 rfl) ?_
              refine j_ldcSw hx hb hown rstr434 dX13_printGoal_102 ?_
              refine va_callv (A0 := jA base) (H0 := s.heap) (va_runV (As := [.ref str434]) (rest := []) ⟨hx, hb, hml, hown, hts⟩ (uX13_words l dC dI ca base B hB hAp hB15 hB101 G0 H_7 r0 str434 3) (cwV 1 hts (jgV (jWr_70 _ (List.mem_of_getElem? (i := 20) rfl)) (jWr_70 _ (List.mem_of_getElem? (i := 21) rfl)) (jWr_70 _ (List.mem_of_getElem? (i := 22) rfl)) (jWr_12 _ (List.mem_of_getElem? (i := 12) rfl)) (jWr_70 _ (List.mem_of_getElem? (i := 23) rfl))) rfl rfl rfl (by decide +kernel) ⟨by rw [← hR]; exact Nat.le_of_ble_eq_true rfl, by rw [← hR]; exact Nat.le_of_ble_eq_true rfl⟩) ⟨fun a U g mk q => by obtain ⟨q0, q1, q2, qK, q10, q11, q12, q13⟩ := q; exact ⟨q0, q1, q2, jG.calling g mk a qK, (q10.moved (Vm.Alike.refl U.vm)), q11, q12, q13⟩, hh_7.recv (C := RX13) (T := TX13) (N := 50) hB15 rfl (by decide) hg_r0 hK, fun U hU hW => ⟨rfl, hU, hh_7.2.1, hG.step hW hU hh_7.1, (hstr434.moved hW.alike).kept hh_7.1.2.1, hg_r0, jP.nil, by first | omega | rfl | assumption | decide | exact Or.inl rfl | exact Or.inr rfl | (simp only; omega)⟩⟩ rfl rfl hl.1 rfl (lv_room (Nat.le_of_ble_eq_true rfl)) dX13_printGoal_105 ⟨Nat.zero_le _, Nat.zero_le _⟩) hh_7.1 (fun q _ h => h) (fun q h => h) (fun u_10 t_10 H_10 locs_10 ht_10 hvm_10 hr_11 hb_10 hz_10 hk_10 hS_10 => ?_)
              rw [ht_10] at hb_10
              obtain ⟨hb_101, hb_102, hb_103, hb_104, hb_105⟩ := hb_10
              have hh_10 : jSt (dC, dI) B base G0 G0 EX13_printGoal s.heap 0 0 [(r0, 15, 23, .ref vars_4), (r0, 15, 22, .ref zg), (r0, 15, 25, .ref zh), (r0, 15, 27, .ref zp), (r0, 15, 0, .ref zs), (r0, 15, 1, .ref zn), (r0, 15, 2, .ref za), (r0, 15, 3, .ref zb), (r0, 15, 4, .ref zc), (r0, 15, 14, .ref zy)] [(zg, 161, 46, ca 1, fg), (zh, 159, 46, ca 1, fh), (zp, 162, 368, ca 1, fp), (zs, 150, 120000, ca 1, C.s), (zn, 151, 120000, ca 1, C.n), (za, 152, 120000, ca 1, C.a), (zb, 153, 120000, ca 1, C.b), (zc, 154, 120000, ca 1, C.c), (zy, 165, 16, ca 1, C.y)] [] H_10 locs_10 := ((hh_7.call hb_101 hb_102 hb_103 hb_104 hS_10 rfl (L1 := [(r0, 15, 23, .ref vars_4), (r0, 15, 22, .ref zg), (r0, 15, 25, .ref zh), (r0, 15, 27, .ref zp), (r0, 15, 0, .ref zs), (r0, 15, 1, .ref zn), (r0, 15, 2, .ref za), (r0, 15, 3, .ref zb), (r0, 15, 4, .ref zc), (r0, 15, 14, .ref zy)]) [0, 1, 2, 3, 4, 5, 6, 7, 8, 9] rfl rfl (M1 := [(zg, 161, 46, ca 1, fg), (zh, 159, 46, ca 1, fh), (zp, 162, 368, ca 1, fp), (zs, 150, 120000, ca 1, C.s), (zn, 151, 120000, ca 1, C.n), (za, 152, 120000, ca 1, C.a), (zb, 153, 120000, ca 1, C.b), (zc, 154, 120000, ca 1, C.c), (zy, 165, 16, ca 1, C.y)]) [0, 1, 2, 3, 4, 5, 6, 7, 8] rfl rfl (I1 := []) [] rfl rfl).more hb_105)
              clear hh_7 ht_10 hvm_10 hz_10 hk_10 hS_10 hb_101 hb_102 hb_103 hb_104 hb_105
              refine lv_aload_n hx hb dX13_printGoal_108 rfl (lv_at hl 0 rfl) ?_
              refine lv_aload_n hx hb dX13_printGoal_109 rfl (lv_at hl 0 rfl) ?_
              refine j7_read hx hb hown hK (C := RX13) (T := TX13) (N := 50) rfl hly_15_22 hlk_53 (hh_10.at 1 rfl) dX13_printGoal_110 ?_
              refine lv_iload_n hx hb dX13_printGoal_113 rfl (lv_at hl 1 rfl) ?_
              refine j7_ialdM hx hb hK hh_10 hB161 1 rfl (by decide) hg_zg (x := a1.toInt) (rfl) (by omega) (j := 0) rfl dX13_printGoal_114 (fun z_12 ez_12 (hz_12 : 0 ≤ z_12.toInt ∧ z_12.toInt ≤ 119999) => ?_)
              have hqz_12 : z_12.toInt = jSo fg (a1.toInt) := by unfold jSo; rw [ez_12]
              refine va_callv (A0 := jA base) (H0 := s.heap) (va_runV (As := [.int z_12]) (rest := []) ⟨hx, hb, hml, hown, hts⟩ (uX13_printFormula l dC dI ca base B hB hAp hB15 hB101 hB150 hB151 hB152 hB153 hB154 hB155 hB156 hB163 hB164 hB165 hB166 G0 H_10 r0 z_12 zs zn za zb zc zy C) (cwV 1 hts (jgV (jWr_71 _ (List.mem_of_getElem? (i := 0) rfl)) (jWr_71 _ (List.mem_of_getElem? (i := 1) rfl)) (jWr_71 _ (List.mem_of_getElem? (i := 2) rfl)) (jWr_12 _ (List.mem_of_getElem? (i := 12) rfl)) (jWr_71 _ (List.mem_of_getElem? (i := 3) rfl))) rfl rfl rfl (by decide +kernel) ⟨by rw [← hR]; exact Nat.le_of_ble_eq_true rfl, by rw [← hR]; exact Nat.le_of_ble_eq_true rfl⟩) ⟨fun a U g mk q => by obtain ⟨q0, q1, q2, qK, q10, q11, q12, q13, q14, q15, q16, q17, q18, q19⟩ := q; exact ⟨q0, q1, q2, jG.calling g mk a qK, q10, q11, q12, q13, q14, q15, q16, q17, q18, q19⟩, hh_10.recv (C := RX13) (T := TX13) (N := 50) hB15 rfl (by decide) hg_r0 hK, fun U hU hW => ⟨rfl, hU, hh_10.2.1, hG.step hW hU hh_10.1, hg_r0, hg_zs, hg_zn, hg_za, hg_zb, hg_zc, hg_zy, (hh_10.2.2.1.sub (L1 := [(r0, 15, 0, .ref zs), (r0, 15, 1, .ref zn), (r0, 15, 2, .ref za), (r0, 15, 3, .ref zb), (r0, 15, 4, .ref zc), (r0, 15, 14, .ref zy)]) [4, 5, 6, 7, 8, 9] rfl), (hh_10.2.2.2.2.2.2.2.1.sub (L1 := [(zs, 150, 120000, ca 1, C.s), (zn, 151, 120000, ca 1, C.n), (za, 152, 120000, ca 1, C.a), (zb, 153, 120000, ca 1, C.b), (zc, 154, 120000, ca 1, C.c), (zy, 165, 16, ca 1, C.y)]) [3, 4, 5, 6, 7, 8] rfl), by first | assumption | (rw [hqz_12]; exact (hp0.1.1.wide (by omega) (by omega))) | omega⟩⟩ rfl rfl hl.1 rfl (lv_room (Nat.le_of_ble_eq_true rfl)) dX13_printGoal_115 ⟨Nat.zero_le _, Nat.zero_le _⟩) hh_10.1 (fun q _ h => h) (fun q h => h) (fun u_13 t_13 H_13 locs_13 ht_13 hvm_13 hr_14 hb_13 hz_13 hk_13 hS_13 => ?_)
              rw [ht_13] at hb_13
              obtain ⟨hb_131, hb_132, hb_133, hb_134, hb_135⟩ := hb_13
              have hh_13 : jSt (dC, dI) B base G0 G0 EX13_printGoal s.heap 0 0 [(r0, 15, 23, .ref vars_4), (r0, 15, 22, .ref zg), (r0, 15, 25, .ref zh), (r0, 15, 27, .ref zp), (r0, 15, 0, .ref zs), (r0, 15, 1, .ref zn), (r0, 15, 2, .ref za), (r0, 15, 3, .ref zb), (r0, 15, 4, .ref zc), (r0, 15, 14, .ref zy)] [(zg, 161, 46, ca 1, fg), (zh, 159, 46, ca 1, fh), (zp, 162, 368, ca 1, fp), (zs, 150, 120000, ca 1, C.s), (zn, 151, 120000, ca 1, C.n), (za, 152, 120000, ca 1, C.a), (zb, 153, 120000, ca 1, C.b), (zc, 154, 120000, ca 1, C.c), (zy, 165, 16, ca 1, C.y)] [] H_13 locs_13 := ((hh_10.call hb_131 hb_132 hb_133 hb_134 hS_13 rfl (L1 := [(r0, 15, 23, .ref vars_4), (r0, 15, 22, .ref zg), (r0, 15, 25, .ref zh), (r0, 15, 27, .ref zp), (r0, 15, 0, .ref zs), (r0, 15, 1, .ref zn), (r0, 15, 2, .ref za), (r0, 15, 3, .ref zb), (r0, 15, 4, .ref zc), (r0, 15, 14, .ref zy)]) [0, 1, 2, 3, 4, 5, 6, 7, 8, 9] rfl rfl (M1 := [(zg, 161, 46, ca 1, fg), (zh, 159, 46, ca 1, fh), (zp, 162, 368, ca 1, fp), (zs, 150, 120000, ca 1, C.s), (zn, 151, 120000, ca 1, C.n), (za, 152, 120000, ca 1, C.a), (zb, 153, 120000, ca 1, C.b), (zc, 154, 120000, ca 1, C.c), (zy, 165, 16, ca 1, C.y)]) [0, 1, 2, 3, 4, 5, 6, 7, 8] rfl rfl (I1 := []) [] rfl rfl).more hb_135)
              clear hh_10 ht_13 hvm_13 hz_13 hk_13 hS_13 hb_131 hb_132 hb_133 hb_134 hb_135
              rw [hQ]
              exact W.vret hx hb hr (fun t ht hW => ⟨⟨(), rfl, trivial, hh_13.rt (M1 := []) [] rfl ht⟩, by rw [ht]; try exact hh_13.1.1, fun q h9 hq => by rw [ht]; try exact hh_13.1.2.1 q h9 hq⟩) hh_13.1.2.2 dX13_printGoal_118
            · skip
              have c_9' : v2_7.toInt < z_8.toInt := jb_ge_n (rfl) (rfl) c_9
              refine lv_aload_n hx hb dX13_printGoal_51 rfl (lv_at hl 0 rfl) ?_
              refine lv_aload_n hx hb dX13_printGoal_52 rfl (lv_at hl 0 rfl) ?_
              obtain ⟨v_15, hv_15, hh_16⟩ := hh_7.pin (C := RX13) (T := TX13) (N := 50) hB15 rfl (by decide) hg_r0 (i := 26) (by decide) rfl
              clear hh_7
              obtain ⟨hypName_17, rfl, hg_hypName_17⟩ := hv_15
              refine j7_read hx hb hown hK (C := RX13) (T := TX13) (N := 50) rfl hly_15_26 hlk_65 (hh_16.at 0 rfl) dX13_printGoal_53 ?_
              refine lv_bipush (v := 8) hx hb dX13_printGoal_56 (by decide) ?_
              refine lv_iload_n hx hb dX13_printGoal_58 rfl (lv_at hl 1 rfl) ?_
              refine lv_imul hx hb dX13_printGoal_59 ?_
              refine lv_topi (fun z_18 ez_18 => ?_)
              have hz_18 : z_18.toInt = 8 * a1.toInt := by rw [ez_18]; exact jb_imul2 ((by decide)) (rfl) (by omega)
              refine lv_iload_n hx hb dX13_printGoal_60 rfl (lv_at hl 2 rfl) ?_
              refine lv_iadd hx hb dX13_printGoal_61 ?_
              refine lv_topi (fun z_19 ez_19 => ?_)
              have hz_19 : z_19.toInt = z_18.toInt + v2_7.toInt := by rw [ez_19]; exact jb_iadd2 (rfl) (rfl) (by omega)
              refine j7_iald hx hb hK hh_16 hB163 1 rfl (by decide) hg_hypName_17 (x := z_19.toInt) (rfl) (by omega) dX13_printGoal_62 (fun z_20 (hz_20 : 0 ≤ z_20.toInt ∧ z_20.toInt ≤ 1599) => ?_)
              refine va_callv (A0 := jA base) (H0 := s.heap) (va_runV (As := [.int z_20]) (rest := []) ⟨hx, hb, hml, hown, hts⟩ (uX13_putName l dC dI ca base B hB hAp hB15 hB101 hB155 hB156 hB166 G0 H_7 r0 z_20) (cwV 1 hts (jgV (jWr_70 _ (List.mem_of_getElem? (i := 19) rfl)) (jWr_70 _ (List.mem_of_getElem? (i := 3) rfl)) (jWr_70 _ (List.mem_of_getElem? (i := 4) rfl)) (jWr_12 _ (List.mem_of_getElem? (i := 12) rfl)) (jWr_70 _ (List.mem_of_getElem? (i := 5) rfl))) rfl rfl rfl (by decide +kernel) ⟨by rw [← hR]; exact Nat.le_of_ble_eq_true rfl, by rw [← hR]; exact Nat.le_of_ble_eq_true rfl⟩) ⟨fun a U g mk q => by obtain ⟨q0, q1, q2, qK, q10, q11, q12⟩ := q; exact ⟨q0, q1, q2, jG.calling g mk a qK, q10, q11, q12⟩, hh_16.recv (C := RX13) (T := TX13) (N := 50) hB15 rfl (by decide) hg_r0 hK, fun U hU hW => ⟨rfl, hU, hh_16.2.1, hG.step hW hU hh_16.1, hg_r0, jP.nil, by first | omega | (refine ⟨?_, ?_⟩ <;> (first | omega | rfl | assumption | decide | exact Or.inl rfl | exact Or.inr rfl | (simp only; omega)))⟩⟩ rfl rfl hl.1 rfl (lv_room (Nat.le_of_ble_eq_true rfl)) dX13_printGoal_63 ⟨Nat.zero_le _, Nat.zero_le _⟩) hh_16.1 (fun q _ h => h) (fun q h => h) (fun u_21 t_21 H_21 locs_21 ht_21 hvm_21 hr_22 hb_21 hz_21 hk_21 hS_21 => ?_)
              rw [ht_21] at hb_21
              obtain ⟨hb_211, hb_212, hb_213, hb_214, hb_215⟩ := hb_21
              have hh_21 : jSt (dC, dI) B base G0 G0 EX13_printGoal s.heap 0 0 [(r0, 15, 26, .ref hypName_17), (r0, 15, 23, .ref vars_4), (r0, 15, 22, .ref zg), (r0, 15, 25, .ref zh), (r0, 15, 27, .ref zp), (r0, 15, 0, .ref zs), (r0, 15, 1, .ref zn), (r0, 15, 2, .ref za), (r0, 15, 3, .ref zb), (r0, 15, 4, .ref zc), (r0, 15, 14, .ref zy)] [(zg, 161, 46, ca 1, fg), (zh, 159, 46, ca 1, fh), (zp, 162, 368, ca 1, fp), (zs, 150, 120000, ca 1, C.s), (zn, 151, 120000, ca 1, C.n), (za, 152, 120000, ca 1, C.a), (zb, 153, 120000, ca 1, C.b), (zc, 154, 120000, ca 1, C.c), (zy, 165, 16, ca 1, C.y)] [] H_21 locs_21 := ((hh_16.call hb_211 hb_212 hb_213 hb_214 hS_21 rfl (L1 := [(r0, 15, 26, .ref hypName_17), (r0, 15, 23, .ref vars_4), (r0, 15, 22, .ref zg), (r0, 15, 25, .ref zh), (r0, 15, 27, .ref zp), (r0, 15, 0, .ref zs), (r0, 15, 1, .ref zn), (r0, 15, 2, .ref za), (r0, 15, 3, .ref zb), (r0, 15, 4, .ref zc), (r0, 15, 14, .ref zy)]) [0, 1, 2, 3, 4, 5, 6, 7, 8, 9, 10] rfl rfl (M1 := [(zg, 161, 46, ca 1, fg), (zh, 159, 46, ca 1, fh), (zp, 162, 368, ca 1, fp), (zs, 150, 120000, ca 1, C.s), (zn, 151, 120000, ca 1, C.n), (za, 152, 120000, ca 1, C.a), (zb, 153, 120000, ca 1, C.b), (zc, 154, 120000, ca 1, C.c), (zy, 165, 16, ca 1, C.y)]) [0, 1, 2, 3, 4, 5, 6, 7, 8] rfl rfl (I1 := []) [] rfl rfl).more hb_215)
              clear hh_16 ht_21 hvm_21 hz_21 hk_21 hS_21 hb_211 hb_212 hb_213 hb_214 hb_215
              refine lv_aload_n hx hb dX13_printGoal_66 rfl (lv_at hl 0 rfl) ?_
              refine j_ldcSw hx hb hown rstr429 dX13_printGoal_67 ?_
              refine va_callv (A0 := jA base) (H0 := s.heap) (va_runV (As := [.ref str429]) (rest := []) ⟨hx, hb, hml, hown, hts⟩ (uX13_words l dC dI ca base B hB hAp hB15 hB101 G0 H_21 r0 str429 3) (cwV 1 hts (jgV (jWr_70 _ (List.mem_of_getElem? (i := 20) rfl)) (jWr_70 _ (List.mem_of_getElem? (i := 21) rfl)) (jWr_70 _ (List.mem_of_getElem? (i := 22) rfl)) (jWr_12 _ (List.mem_of_getElem? (i := 12) rfl)) (jWr_70 _ (List.mem_of_getElem? (i := 23) rfl))) rfl rfl rfl (by decide +kernel) ⟨by rw [← hR]; exact Nat.le_of_ble_eq_true rfl, by rw [← hR]; exact Nat.le_of_ble_eq_true rfl⟩) ⟨fun a U g mk q => by obtain ⟨q0, q1, q2, qK, q10, q11, q12, q13⟩ := q; exact ⟨q0, q1, q2, jG.calling g mk a qK, (q10.moved (Vm.Alike.refl U.vm)), q11, q12, q13⟩, hh_21.recv (C := RX13) (T := TX13) (N := 50) hB15 rfl (by decide) hg_r0 hK, fun U hU hW => ⟨rfl, hU, hh_21.2.1, hG.step hW hU hh_21.1, (hstr429.moved hW.alike).kept hh_21.1.2.1, hg_r0, jP.nil, by first | omega | rfl | assumption | decide | exact Or.inl rfl | exact Or.inr rfl | (simp only; omega)⟩⟩ rfl rfl hl.1 rfl (lv_room (Nat.le_of_ble_eq_true rfl)) dX13_printGoal_70 ⟨Nat.zero_le _, Nat.zero_le _⟩) hh_21.1 (fun q _ h => h) (fun q h => h) (fun u_23 t_23 H_23 locs_23 ht_23 hvm_23 hr_24 hb_23 hz_23 hk_23 hS_23 => ?_)
              rw [ht_23] at hb_23
              obtain ⟨hb_231, hb_232, hb_233, hb_234, hb_235⟩ := hb_23
              have hh_23 : jSt (dC, dI) B base G0 G0 EX13_printGoal s.heap 0 0 [(r0, 15, 26, .ref hypName_17), (r0, 15, 23, .ref vars_4), (r0, 15, 22, .ref zg), (r0, 15, 25, .ref zh), (r0, 15, 27, .ref zp), (r0, 15, 0, .ref zs), (r0, 15, 1, .ref zn), (r0, 15, 2, .ref za), (r0, 15, 3, .ref zb), (r0, 15, 4, .ref zc), (r0, 15, 14, .ref zy)] [(zg, 161, 46, ca 1, fg), (zh, 159, 46, ca 1, fh), (zp, 162, 368, ca 1, fp), (zs, 150, 120000, ca 1, C.s), (zn, 151, 120000, ca 1, C.n), (za, 152, 120000, ca 1, C.a), (zb, 153, 120000, ca 1, C.b), (zc, 154, 120000, ca 1, C.c), (zy, 165, 16, ca 1, C.y)] [] H_23 locs_23 := ((hh_21.call hb_231 hb_232 hb_233 hb_234 hS_23 rfl (L1 := [(r0, 15, 26, .ref hypName_17), (r0, 15, 23, .ref vars_4), (r0, 15, 22, .ref zg), (r0, 15, 25, .ref zh), (r0, 15, 27, .ref zp), (r0, 15, 0, .ref zs), (r0, 15, 1, .ref zn), (r0, 15, 2, .ref za), (r0, 15, 3, .ref zb), (r0, 15, 4, .ref zc), (r0, 15, 14, .ref zy)]) [0, 1, 2, 3, 4, 5, 6, 7, 8, 9, 10] rfl rfl (M1 := [(zg, 161, 46, ca 1, fg), (zh, 159, 46, ca 1, fh), (zp, 162, 368, ca 1, fp), (zs, 150, 120000, ca 1, C.s), (zn, 151, 120000, ca 1, C.n), (za, 152, 120000, ca 1, C.a), (zb, 153, 120000, ca 1, C.b), (zc, 154, 120000, ca 1, C.c), (zy, 165, 16, ca 1, C.y)]) [0, 1, 2, 3, 4, 5, 6, 7, 8] rfl rfl (I1 := []) [] rfl rfl).more hb_235)
              clear hh_21 ht_23 hvm_23 hz_23 hk_23 hS_23 hb_231 hb_232 hb_233 hb_234 hb_235
              refine lv_aload_n hx hb dX13_printGoal_73 rfl (lv_at hl 0 rfl) ?_
              refine lv_aload_n hx hb dX13_printGoal_74 rfl (lv_at hl 0 rfl) ?_
              refine j7_read hx hb hown hK (C := RX13) (T := TX13) (N := 50) rfl hly_15_27 hlk_68 (hh_23.at 4 rfl) dX13_printGoal_75 ?_
              refine lv_bipush (v := 8) hx hb dX13_printGoal_78 (by decide) ?_
              refine lv_iload_n hx hb dX13_printGoal_80 rfl (lv_at hl 1 rfl) ?_
              refine lv_imul hx hb dX13_printGoal_81 ?_
              refine lv_topi (fun z_25 ez_25 => ?_)
              have hz_25 : z_25.toInt = 8 * a1.toInt := by rw [ez_25]; exact jb_imul2 ((by decide)) (rfl) (by omega)
              refine lv_iload_n hx hb dX13_printGoal_82 rfl (lv_at hl 2 rfl) ?_
              refine lv_iadd hx hb dX13_printGoal_83 ?_
              refine lv_topi (fun z_26 ez_26 => ?_)
              have hz_26 : z_26.toInt = z_25.toInt + v2_7.toInt := by rw [ez_26]; exact jb_iadd2 (rfl) (rfl) (by omega)
              refine j7_ialdM hx hb hK hh_23 hB162 1 rfl (by decide) hg_zp (x := z_26.toInt) (rfl) (by omega) (j := 2) rfl dX13_printGoal_84 (fun z_27 ez_27 (hz_27 : 0 ≤ z_27.toInt ∧ z_27.toInt ≤ 119999) => ?_)
              have hqz_27 : z_27.toInt = jSo fp (((8 * a1.toInt) + v2_7.toInt)) := by unfold jSo; rw [ez_27, show z_26.toInt = ((8 * a1.toInt) + v2_7.toInt) by omega]
              refine va_callv (A0 := jA base) (H0 := s.heap) (va_runV (As := [.int z_27]) (rest := []) ⟨hx, hb, hml, hown, hts⟩ (uX13_printFormula l dC dI ca base B hB hAp hB15 hB101 hB150 hB151 hB152 hB153 hB154 hB155 hB156 hB163 hB164 hB165 hB166 G0 H_23 r0 z_27 zs zn za zb zc zy C) (cwV 1 hts (jgV (jWr_71 _ (List.mem_of_getElem? (i := 0) rfl)) (jWr_71 _ (List.mem_of_getElem? (i := 1) rfl)) (jWr_71 _ (List.mem_of_getElem? (i := 2) rfl)) (jWr_12 _ (List.mem_of_getElem? (i := 12) rfl)) (jWr_71 _ (List.mem_of_getElem? (i := 3) rfl))) rfl rfl rfl (by decide +kernel) ⟨by rw [← hR]; exact Nat.le_of_ble_eq_true rfl, by rw [← hR]; exact Nat.le_of_ble_eq_true rfl⟩) ⟨fun a U g mk q => by obtain ⟨q0, q1, q2, qK, q10, q11, q12, q13, q14, q15, q16, q17, q18, q19⟩ := q; exact ⟨q0, q1, q2, jG.calling g mk a qK, q10, q11, q12, q13, q14, q15, q16, q17, q18, q19⟩, hh_23.recv (C := RX13) (T := TX13) (N := 50) hB15 rfl (by decide) hg_r0 hK, fun U hU hW => ⟨rfl, hU, hh_23.2.1, hG.step hW hU hh_23.1, hg_r0, hg_zs, hg_zn, hg_za, hg_zb, hg_zc, hg_zy, (hh_23.2.2.1.sub (L1 := [(r0, 15, 0, .ref zs), (r0, 15, 1, .ref zn), (r0, 15, 2, .ref za), (r0, 15, 3, .ref zb), (r0, 15, 4, .ref zc), (r0, 15, 14, .ref zy)]) [5, 6, 7, 8, 9, 10] rfl), (hh_23.2.2.2.2.2.2.2.1.sub (L1 := [(zs, 150, 120000, ca 1, C.s), (zn, 151, 120000, ca 1, C.n), (za, 152, 120000, ca 1, C.a), (zb, 153, 120000, ca 1, C.b), (zc, 154, 120000, ca 1, C.c), (zy, 165, 16, ca 1, C.y)]) [3, 4, 5, 6, 7, 8] rfl), by first | assumption | (rw [hqz_27]; exact ((hp0.2.2.2 _ (by omega) (by omega)).1.wide (by omega) (by omega))) | omega⟩⟩ rfl rfl hl.1 rfl (lv_room (Nat.le_of_ble_eq_true rfl)) dX13_printGoal_85 ⟨Nat.zero_le _, Nat.zero_le _⟩) hh_23.1 (fun q _ h => h) (fun q h => h) (fun u_28 t_28 H_28 locs_28 ht_28 hvm_28 hr_29 hb_28 hz_28 hk_28 hS_28 => ?_)
              rw [ht_28] at hb_28
              obtain ⟨hb_281, hb_282, hb_283, hb_284, hb_285⟩ := hb_28
              have hh_28 : jSt (dC, dI) B base G0 G0 EX13_printGoal s.heap 0 0 [(r0, 15, 26, .ref hypName_17), (r0, 15, 23, .ref vars_4), (r0, 15, 22, .ref zg), (r0, 15, 25, .ref zh), (r0, 15, 27, .ref zp), (r0, 15, 0, .ref zs), (r0, 15, 1, .ref zn), (r0, 15, 2, .ref za), (r0, 15, 3, .ref zb), (r0, 15, 4, .ref zc), (r0, 15, 14, .ref zy)] [(zg, 161, 46, ca 1, fg), (zh, 159, 46, ca 1, fh), (zp, 162, 368, ca 1, fp), (zs, 150, 120000, ca 1, C.s), (zn, 151, 120000, ca 1, C.n), (za, 152, 120000, ca 1, C.a), (zb, 153, 120000, ca 1, C.b), (zc, 154, 120000, ca 1, C.c), (zy, 165, 16, ca 1, C.y)] [] H_28 locs_28 := ((hh_23.call hb_281 hb_282 hb_283 hb_284 hS_28 rfl (L1 := [(r0, 15, 26, .ref hypName_17), (r0, 15, 23, .ref vars_4), (r0, 15, 22, .ref zg), (r0, 15, 25, .ref zh), (r0, 15, 27, .ref zp), (r0, 15, 0, .ref zs), (r0, 15, 1, .ref zn), (r0, 15, 2, .ref za), (r0, 15, 3, .ref zb), (r0, 15, 4, .ref zc), (r0, 15, 14, .ref zy)]) [0, 1, 2, 3, 4, 5, 6, 7, 8, 9, 10] rfl rfl (M1 := [(zg, 161, 46, ca 1, fg), (zh, 159, 46, ca 1, fh), (zp, 162, 368, ca 1, fp), (zs, 150, 120000, ca 1, C.s), (zn, 151, 120000, ca 1, C.n), (za, 152, 120000, ca 1, C.a), (zb, 153, 120000, ca 1, C.b), (zc, 154, 120000, ca 1, C.c), (zy, 165, 16, ca 1, C.y)]) [0, 1, 2, 3, 4, 5, 6, 7, 8] rfl rfl (I1 := []) [] rfl rfl).more hb_285)
              clear hh_23 ht_28 hvm_28 hz_28 hk_28 hS_28 hb_281 hb_282 hb_283 hb_284 hb_285
              refine lv_aload_n hx hb dX13_printGoal_88 rfl (lv_at hl 0 rfl) ?_
              refine j_ldcSw hx hb hown rstr427 dX13_printGoal_89 ?_
              refine va_callv (A0 := jA base) (H0 := s.heap) (va_runV (As := [.ref str427]) (rest := []) ⟨hx, hb, hml, hown, hts⟩ (uX13_words l dC dI ca base B hB hAp hB15 hB101 G0 H_28 r0 str427 2) (cwV 1 hts (jgV (jWr_70 _ (List.mem_of_getElem? (i := 20) rfl)) (jWr_70 _ (List.mem_of_getElem? (i := 21) rfl)) (jWr_70 _ (List.mem_of_getElem? (i := 22) rfl)) (jWr_12 _ (List.mem_of_getElem? (i := 12) rfl)) (jWr_70 _ (List.mem_of_getElem? (i := 23) rfl))) rfl rfl rfl (by decide +kernel) ⟨by rw [← hR]; exact Nat.le_of_ble_eq_true rfl, by rw [← hR]; exact Nat.le_of_ble_eq_true rfl⟩) ⟨fun a U g mk q => by obtain ⟨q0, q1, q2, qK, q10, q11, q12, q13⟩ := q; exact ⟨q0, q1, q2, jG.calling g mk a qK, (q10.moved (Vm.Alike.refl U.vm)), q11, q12, q13⟩, hh_28.recv (C := RX13) (T := TX13) (N := 50) hB15 rfl (by decide) hg_r0 hK, fun U hU hW => ⟨rfl, hU, hh_28.2.1, hG.step hW hU hh_28.1, (hstr427.moved hW.alike).kept hh_28.1.2.1, hg_r0, jP.nil, by first | omega | rfl | assumption | decide | exact Or.inl rfl | exact Or.inr rfl | (simp only; omega)⟩⟩ rfl rfl hl.1 rfl (lv_room (Nat.le_of_ble_eq_true rfl)) dX13_printGoal_92 ⟨Nat.zero_le _, Nat.zero_le _⟩) hh_28.1 (fun q _ h => h) (fun q h => h) (fun u_30 t_30 H_30 locs_30 ht_30 hvm_30 hr_31 hb_30 hz_30 hk_30 hS_30 => ?_)
              rw [ht_30] at hb_30
              obtain ⟨hb_301, hb_302, hb_303, hb_304, hb_305⟩ := hb_30
              have hh_30 : jSt (dC, dI) B base G0 G0 EX13_printGoal s.heap 0 0 [(r0, 15, 26, .ref hypName_17), (r0, 15, 23, .ref vars_4), (r0, 15, 22, .ref zg), (r0, 15, 25, .ref zh), (r0, 15, 27, .ref zp), (r0, 15, 0, .ref zs), (r0, 15, 1, .ref zn), (r0, 15, 2, .ref za), (r0, 15, 3, .ref zb), (r0, 15, 4, .ref zc), (r0, 15, 14, .ref zy)] [(zg, 161, 46, ca 1, fg), (zh, 159, 46, ca 1, fh), (zp, 162, 368, ca 1, fp), (zs, 150, 120000, ca 1, C.s), (zn, 151, 120000, ca 1, C.n), (za, 152, 120000, ca 1, C.a), (zb, 153, 120000, ca 1, C.b), (zc, 154, 120000, ca 1, C.c), (zy, 165, 16, ca 1, C.y)] [] H_30 locs_30 := ((hh_28.call hb_301 hb_302 hb_303 hb_304 hS_30 rfl (L1 := [(r0, 15, 26, .ref hypName_17), (r0, 15, 23, .ref vars_4), (r0, 15, 22, .ref zg), (r0, 15, 25, .ref zh), (r0, 15, 27, .ref zp), (r0, 15, 0, .ref zs), (r0, 15, 1, .ref zn), (r0, 15, 2, .ref za), (r0, 15, 3, .ref zb), (r0, 15, 4, .ref zc), (r0, 15, 14, .ref zy)]) [0, 1, 2, 3, 4, 5, 6, 7, 8, 9, 10] rfl rfl (M1 := [(zg, 161, 46, ca 1, fg), (zh, 159, 46, ca 1, fh), (zp, 162, 368, ca 1, fp), (zs, 150, 120000, ca 1, C.s), (zn, 151, 120000, ca 1, C.n), (za, 152, 120000, ca 1, C.a), (zb, 153, 120000, ca 1, C.b), (zc, 154, 120000, ca 1, C.c), (zy, 165, 16, ca 1, C.y)]) [0, 1, 2, 3, 4, 5, 6, 7, 8] rfl rfl (I1 := []) [] rfl rfl).more hb_305)
              clear hh_28 ht_30 hvm_30 hz_30 hk_30 hS_30 hb_301 hb_302 hb_303 hb_304 hb_305
              obtain ⟨z_32, ez_32⟩ : ∃ y : Int32, y = v2_7 + 1 := ⟨_, rfl⟩
              refine lv_iinc (v := z_32) (lv' := [(2, .int z_32), (0, .ref r0), (1, .int a1)]) hx hb dX13_printGoal_95 hl (k := 2) rfl (by rw [ez_32]; rfl) (by decide) rfl (fun ls hl => ?_)
              have hz_32 : z_32.toInt = v2_7.toInt + 1 := by rw [ez_32]; exact jb_iadd2 (rfl) (by decide) (by omega)
              refine lv_goto (tgt := 41) hx hb dX13_printGoal_98 (by decide) ?_
              exact L41 z_32 _ _ (hh_30.sub (L1 := [(r0, 15, 23, .ref vars_4), (r0, 15, 22, .ref zg), (r0, 15, 25, .ref zh), (r0, 15, 27, .ref zp), (r0, 15, 0, .ref zs), (r0, 15, 1, .ref zn), (r0, 15, 2, .ref za), (r0, 15, 3, .ref zb), (r0, 15, 4, .ref zc), (r0, 15, 14, .ref zy)]) [1, 2, 3, 4, 5, 6, 7, 8, 9, 10] rfl (M1 := [(zg, 161, 46, ca 1, fg), (zh, 159, 46, ca 1, fh), (zp, 162, 368, ca 1, fp), (zs, 150, 120000, ca 1, C.s), (zn, 151, 120000, ca 1, C.n), (za, 152, 120000, ca 1, C.a), (zb, 153, 120000, ca 1, C.b), (zc, 154, 120000, ca 1, C.c), (zy, 165, 16, ca 1, C.y)]) [0, 1, 2, 3, 4, 5, 6, 7, 8] rfl (I1 := []) [] rfl) (by first | omega | (refine ⟨?_, ?_⟩ <;> (first | omega | rfl | assumption | decide | exact Or.inl rfl | exact Or.inr rfl | (simp only; omega)))) (by omega) _ (lv_sub hl [1, 2, 0] rfl)
        exact L41 (8 - (0 : Int32).toInt : Int).toNat.succ 0 _ _ hh_3 (by first | omega | (refine ⟨?_, ?_⟩ <;> (first | omega | rfl | assumption | decide | exact Or.inl rfl | exact Or.inr rfl | (simp only; omega)))) (by omega) _ (lv_sub hl [1, 2, 0] rfl)
      · skip
        have c_6' : v2_1.toInt < z_5.toInt := jb_ge_n (rfl) (rfl) c_6
        refine lv_aload_n hx hb dX13_printGoal_12 rfl (lv_at hl 0 rfl) ?_
        refine lv_aload_n hx hb dX13_printGoal_13 rfl (lv_at hl 0 rfl) ?_
        obtain ⟨v_33, hv_33, hh_34⟩ := hh_3.pin (C := RX13) (T := TX13) (N := 50) hB15 rfl (by decide) hg_r0 (i := 24) (by decide) rfl
        clear hh_3
        obtain ⟨varName_35, rfl, hg_varName_35⟩ := hv_33
        refine j7_read hx hb hown hK (C := RX13) (T := TX13) (N := 50) rfl hly_15_24 hlk_59 (hh_34.at 0 rfl) dX13_printGoal_14 ?_
        refine lv_bipush (v := 6) hx hb dX13_printGoal_17 (by decide) ?_
        refine lv_iload_n hx hb dX13_printGoal_19 rfl (lv_at hl 1 rfl) ?_
        refine lv_imul hx hb dX13_printGoal_20 ?_
        refine lv_topi (fun z_36 ez_36 => ?_)
        have hz_36 : z_36.toInt = 6 * a1.toInt := by rw [ez_36]; exact jb_imul2 ((by decide)) (rfl) (by omega)
        refine lv_iload_n hx hb dX13_printGoal_21 rfl (lv_at hl 2 rfl) ?_
        refine lv_iadd hx hb dX13_printGoal_22 ?_
        refine lv_topi (fun z_37 ez_37 => ?_)
        have hz_37 : z_37.toInt = z_36.toInt + v2_1.toInt := by rw [ez_37]; exact jb_iadd2 (rfl) (rfl) (by omega)
        refine j7_iald hx hb hK hh_34 hB163 1 rfl (by decide) hg_varName_35 (x := z_37.toInt) (rfl) (by omega) dX13_printGoal_23 (fun z_38 (hz_38 : 0 ≤ z_38.toInt ∧ z_38.toInt ≤ 1599) => ?_)
        refine va_callv (A0 := jA base) (H0 := s.heap) (va_runV (As := [.int z_38]) (rest := []) ⟨hx, hb, hml, hown, hts⟩ (uX13_putName l dC dI ca base B hB hAp hB15 hB101 hB155 hB156 hB166 G0 H_1 r0 z_38) (cwV 1 hts (jgV (jWr_70 _ (List.mem_of_getElem? (i := 19) rfl)) (jWr_70 _ (List.mem_of_getElem? (i := 3) rfl)) (jWr_70 _ (List.mem_of_getElem? (i := 4) rfl)) (jWr_12 _ (List.mem_of_getElem? (i := 12) rfl)) (jWr_70 _ (List.mem_of_getElem? (i := 5) rfl))) rfl rfl rfl (by decide +kernel) ⟨by rw [← hR]; exact Nat.le_of_ble_eq_true rfl, by rw [← hR]; exact Nat.le_of_ble_eq_true rfl⟩) ⟨fun a U g mk q => by obtain ⟨q0, q1, q2, qK, q10, q11, q12⟩ := q; exact ⟨q0, q1, q2, jG.calling g mk a qK, q10, q11, q12⟩, hh_34.recv (C := RX13) (T := TX13) (N := 50) hB15 rfl (by decide) hg_r0 hK, fun U hU hW => ⟨rfl, hU, hh_34.2.1, hG.step hW hU hh_34.1, hg_r0, jP.nil, by first | omega | (refine ⟨?_, ?_⟩ <;> (first | omega | rfl | assumption | decide | exact Or.inl rfl | exact Or.inr rfl | (simp only; omega)))⟩⟩ rfl rfl hl.1 rfl (lv_room (Nat.le_of_ble_eq_true rfl)) dX13_printGoal_24 ⟨Nat.zero_le _, Nat.zero_le _⟩) hh_34.1 (fun q _ h => h) (fun q h => h) (fun u_39 t_39 H_39 locs_39 ht_39 hvm_39 hr_40 hb_39 hz_39 hk_39 hS_39 => ?_)
        rw [ht_39] at hb_39
        obtain ⟨hb_391, hb_392, hb_393, hb_394, hb_395⟩ := hb_39
        have hh_39 : jSt (dC, dI) B base G0 G0 EX13_printGoal s.heap 0 0 [(r0, 15, 24, .ref varName_35), (r0, 15, 23, .ref vars_4), (r0, 15, 22, .ref zg), (r0, 15, 25, .ref zh), (r0, 15, 27, .ref zp), (r0, 15, 0, .ref zs), (r0, 15, 1, .ref zn), (r0, 15, 2, .ref za), (r0, 15, 3, .ref zb), (r0, 15, 4, .ref zc), (r0, 15, 14, .ref zy)] [(zg, 161, 46, ca 1, fg), (zh, 159, 46, ca 1, fh), (zp, 162, 368, ca 1, fp), (zs, 150, 120000, ca 1, C.s), (zn, 151, 120000, ca 1, C.n), (za, 152, 120000, ca 1, C.a), (zb, 153, 120000, ca 1, C.b), (zc, 154, 120000, ca 1, C.c), (zy, 165, 16, ca 1, C.y)] [] H_39 locs_39 := ((hh_34.call hb_391 hb_392 hb_393 hb_394 hS_39 rfl (L1 := [(r0, 15, 24, .ref varName_35), (r0, 15, 23, .ref vars_4), (r0, 15, 22, .ref zg), (r0, 15, 25, .ref zh), (r0, 15, 27, .ref zp), (r0, 15, 0, .ref zs), (r0, 15, 1, .ref zn), (r0, 15, 2, .ref za), (r0, 15, 3, .ref zb), (r0, 15, 4, .ref zc), (r0, 15, 14, .ref zy)]) [0, 1, 2, 3, 4, 5, 6, 7, 8, 9, 10] rfl rfl (M1 := [(zg, 161, 46, ca 1, fg), (zh, 159, 46, ca 1, fh), (zp, 162, 368, ca 1, fp), (zs, 150, 120000, ca 1, C.s), (zn, 151, 120000, ca 1, C.n), (za, 152, 120000, ca 1, C.a), (zb, 153, 120000, ca 1, C.b), (zc, 154, 120000, ca 1, C.c), (zy, 165, 16, ca 1, C.y)]) [0, 1, 2, 3, 4, 5, 6, 7, 8] rfl rfl (I1 := []) [] rfl rfl).more hb_395)
        clear hh_34 ht_39 hvm_39 hz_39 hk_39 hS_39 hb_391 hb_392 hb_393 hb_394 hb_395
        refine lv_aload_n hx hb dX13_printGoal_27 rfl (lv_at hl 0 rfl) ?_
        refine lv_bipush (v := 32) hx hb dX13_printGoal_28 (by decide) ?_
        refine va_callv (A0 := jA base) (H0 := s.heap) (va_runV (As := [.int 32]) (rest := []) ⟨hx, hb, hml, hown, hts⟩ (uX13_put l dC dI ca base B hB hAp hB15 hB101 G0 H_39 r0 32) (cwV 1 hts (jgV (jWr_70 _ (List.mem_of_getElem? (i := 6) rfl)) (jWr_70 _ (List.mem_of_getElem? (i := 7) rfl)) (jWr_70 _ (List.mem_of_getElem? (i := 8) rfl)) (jWr_12 _ (List.mem_of_getElem? (i := 12) rfl)) (jWr_70 _ (List.mem_of_getElem? (i := 9) rfl))) rfl rfl rfl (by decide +kernel) ⟨by rw [← hR]; exact Nat.le_of_ble_eq_true rfl, by rw [← hR]; exact Nat.le_of_ble_eq_true rfl⟩) ⟨fun a U g mk q => by obtain ⟨q0, q1, q2, qK, q10, q11, q12⟩ := q; exact ⟨q0, q1, q2, jG.calling g mk a qK, q10, q11, q12⟩, hh_39.recv (C := RX13) (T := TX13) (N := 50) hB15 rfl (by decide) hg_r0 hK, fun U hU hW => ⟨rfl, hU, hh_39.2.1, hG.step hW hU hh_39.1, hg_r0, jP.nil, trivial⟩⟩ rfl rfl hl.1 rfl (lv_room (Nat.le_of_ble_eq_true rfl)) dX13_printGoal_30 ⟨Nat.zero_le _, Nat.zero_le _⟩) hh_39.1 (fun q _ h => h) (fun q h => h) (fun u_41 t_41 H_41 locs_41 ht_41 hvm_41 hr_42 hb_41 hz_41 hk_41 hS_41 => ?_)
        rw [ht_41] at hb_41
        obtain ⟨hb_411, hb_412, hb_413, hb_414, hb_415⟩ := hb_41
        have hh_41 : jSt (dC, dI) B base G0 G0 EX13_printGoal s.heap 0 0 [(r0, 15, 24, .ref varName_35), (r0, 15, 23, .ref vars_4), (r0, 15, 22, .ref zg), (r0, 15, 25, .ref zh), (r0, 15, 27, .ref zp), (r0, 15, 0, .ref zs), (r0, 15, 1, .ref zn), (r0, 15, 2, .ref za), (r0, 15, 3, .ref zb), (r0, 15, 4, .ref zc), (r0, 15, 14, .ref zy)] [(zg, 161, 46, ca 1, fg), (zh, 159, 46, ca 1, fh), (zp, 162, 368, ca 1, fp), (zs, 150, 120000, ca 1, C.s), (zn, 151, 120000, ca 1, C.n), (za, 152, 120000, ca 1, C.a), (zb, 153, 120000, ca 1, C.b), (zc, 154, 120000, ca 1, C.c), (zy, 165, 16, ca 1, C.y)] [] H_41 locs_41 := ((hh_39.call hb_411 hb_412 hb_413 hb_414 hS_41 rfl (L1 := [(r0, 15, 24, .ref varName_35), (r0, 15, 23, .ref vars_4), (r0, 15, 22, .ref zg), (r0, 15, 25, .ref zh), (r0, 15, 27, .ref zp), (r0, 15, 0, .ref zs), (r0, 15, 1, .ref zn), (r0, 15, 2, .ref za), (r0, 15, 3, .ref zb), (r0, 15, 4, .ref zc), (r0, 15, 14, .ref zy)]) [0, 1, 2, 3, 4, 5, 6, 7, 8, 9, 10] rfl rfl (M1 := [(zg, 161, 46, ca 1, fg), (zh, 159, 46, ca 1, fh), (zp, 162, 368, ca 1, fp), (zs, 150, 120000, ca 1, C.s), (zn, 151, 120000, ca 1, C.n), (za, 152, 120000, ca 1, C.a), (zb, 153, 120000, ca 1, C.b), (zc, 154, 120000, ca 1, C.c), (zy, 165, 16, ca 1, C.y)]) [0, 1, 2, 3, 4, 5, 6, 7, 8] rfl rfl (I1 := []) [] rfl rfl).more hb_415)
        clear hh_39 ht_41 hvm_41 hz_41 hk_41 hS_41 hb_411 hb_412 hb_413 hb_414 hb_415
        obtain ⟨z_43, ez_43⟩ : ∃ y : Int32, y = v2_1 + 1 := ⟨_, rfl⟩
        refine lv_iinc (v := z_43) (lv' := [(2, .int z_43), (0, .ref r0), (1, .int a1)]) hx hb dX13_printGoal_33 hl (k := 2) rfl (by rw [ez_43]; rfl) (by decide) rfl (fun ls hl => ?_)
        have hz_43 : z_43.toInt = v2_1.toInt + 1 := by rw [ez_43]; exact jb_iadd2 (rfl) (by decide) (by omega)
        refine lv_goto (tgt := 2) hx hb dX13_printGoal_36 (by decide) ?_
        exact L2 z_43 _ _ (hh_41.sub (L1 := [(r0, 15, 22, .ref zg), (r0, 15, 25, .ref zh), (r0, 15, 27, .ref zp), (r0, 15, 0, .ref zs), (r0, 15, 1, .ref zn), (r0, 15, 2, .ref za), (r0, 15, 3, .ref zb), (r0, 15, 4, .ref zc), (r0, 15, 14, .ref zy)]) [2, 3, 4, 5, 6, 7, 8, 9, 10] rfl (M1 := [(zg, 161, 46, ca 1, fg), (zh, 159, 46, ca 1, fh), (zp, 162, 368, ca 1, fp), (zs, 150, 120000, ca 1, C.s), (zn, 151, 120000, ca 1, C.n), (za, 152, 120000, ca 1, C.a), (zb, 153, 120000, ca 1, C.b), (zc, 154, 120000, ca 1, C.c), (zy, 165, 16, ca 1, C.y)]) [0, 1, 2, 3, 4, 5, 6, 7, 8] rfl (I1 := []) [] rfl) (by first | omega | (refine ⟨?_, ?_⟩ <;> (first | omega | rfl | assumption | decide | exact Or.inl rfl | exact Or.inr rfl | (simp only; omega)))) (by omega) _ (lv_sub hl [1, 2, 0] rfl)
  exact L2 (6 - (0 : Int32).toInt : Int).toNat.succ 0 _ _ hh (by first | omega | (refine ⟨?_, ?_⟩ <;> (first | omega | rfl | assumption | decide | exact Or.inl rfl | exact Or.inr rfl | (simp only; omega)))) (by omega) _ (lv_sub hl [1, 2, 0] rfl)
