section
theorem dX11_beginAnswer_0 : decode cX11_beginAnswer 0 = .ok (.aload_n 0, 1) := by decide +kernel
theorem dX11_beginAnswer_1 : decode cX11_beginAnswer 1 = .ok (.getfield 35, 3) := by decide +kernel
theorem dX11_beginAnswer_4 : decode cX11_beginAnswer 4 = .ok (.iconst 0, 1) := by decide +kernel
theorem dX11_beginAnswer_5 : decode cX11_beginAnswer 5 = .ok (.putfield 92, 3) := by decide +kernel
theorem dX11_beginAnswer_8 : decode cX11_beginAnswer 8 = .ok (.aload_n 0, 1) := by decide +kernel
theorem dX11_beginAnswer_9 : decode cX11_beginAnswer 9 = .ok (.getfield 35, 3) := by decide +kernel
theorem dX11_beginAnswer_12 : decode cX11_beginAnswer 12 = .ok (.ldc_w 491, 3) := by decide +kernel
theorem dX11_beginAnswer_15 : decode cX11_beginAnswer 15 = .ok (.invokevirtual 297, 3) := by decide +kernel
theorem dX11_beginAnswer_18 : decode cX11_beginAnswer 18 = .ok (.aload_n 1, 1) := by decide +kernel
theorem dX11_beginAnswer_19 : decode cX11_beginAnswer 19 = .ok (.getfield 114, 3) := by decide +kernel
theorem dX11_beginAnswer_22 : decode cX11_beginAnswer 22 = .ok (.ifnonnull 16, 3) := by decide +kernel
theorem dX11_beginAnswer_25 : decode cX11_beginAnswer 25 = .ok (.aload_n 0, 1) := by decide +kernel
theorem dX11_beginAnswer_26 : decode cX11_beginAnswer 26 = .ok (.getfield 35, 3) := by decide +kernel
theorem dX11_beginAnswer_29 : decode cX11_beginAnswer 29 = .ok (.ldc_w 493, 3) := by decide +kernel
theorem dX11_beginAnswer_32 : decode cX11_beginAnswer 32 = .ok (.invokevirtual 297, 3) := by decide +kernel
theorem dX11_beginAnswer_35 : decode cX11_beginAnswer 35 = .ok (.goto 14, 3) := by decide +kernel
theorem dX11_beginAnswer_38 : decode cX11_beginAnswer 38 = .ok (.aload_n 0, 1) := by decide +kernel
theorem dX11_beginAnswer_39 : decode cX11_beginAnswer 39 = .ok (.getfield 35, 3) := by decide +kernel
theorem dX11_beginAnswer_42 : decode cX11_beginAnswer 42 = .ok (.aload_n 1, 1) := by decide +kernel
theorem dX11_beginAnswer_43 : decode cX11_beginAnswer 43 = .ok (.getfield 114, 3) := by decide +kernel
theorem dX11_beginAnswer_46 : decode cX11_beginAnswer 46 = .ok (.invokevirtual 495, 3) := by decide +kernel
theorem dX11_beginAnswer_49 : decode cX11_beginAnswer 49 = .ok (.aload_n 0, 1) := by decide +kernel
theorem dX11_beginAnswer_50 : decode cX11_beginAnswer 50 = .ok (.getfield 35, 3) := by decide +kernel
theorem dX11_beginAnswer_53 : decode cX11_beginAnswer 53 = .ok (.aload_n 2, 1) := by decide +kernel
theorem dX11_beginAnswer_54 : decode cX11_beginAnswer 54 = .ok (.invokevirtual 297, 3) := by decide +kernel
theorem dX11_beginAnswer_57 : decode cX11_beginAnswer 57 = .ok (.return_, 1) := by decide +kernel
theorem dX11_diagnostic_0 : decode cX11_diagnostic 0 = .ok (.aload_n 0, 1) := by decide +kernel
theorem dX11_diagnostic_1 : decode cX11_diagnostic 1 = .ok (.getfield 35, 3) := by decide +kernel
theorem dX11_diagnostic_4 : decode cX11_diagnostic 4 = .ok (.ldc_w 518, 3) := by decide +kernel
theorem dX11_diagnostic_7 : decode cX11_diagnostic 7 = .ok (.invokevirtual 297, 3) := by decide +kernel
theorem dX11_diagnostic_10 : decode cX11_diagnostic 10 = .ok (.aload_n 0, 1) := by decide +kernel
theorem dX11_diagnostic_11 : decode cX11_diagnostic 11 = .ok (.aload_n 1, 1) := by decide +kernel
theorem dX11_diagnostic_12 : decode cX11_diagnostic 12 = .ok (.aload_n 1, 1) := by decide +kernel
theorem dX11_diagnostic_13 : decode cX11_diagnostic 13 = .ok (.getfield 182, 3) := by decide +kernel
theorem dX11_diagnostic_16 : decode cX11_diagnostic 16 = .ok (.iload_n 2, 1) := by decide +kernel
theorem dX11_diagnostic_17 : decode cX11_diagnostic 17 = .ok (.iaload, 1) := by decide +kernel
theorem dX11_diagnostic_18 : decode cX11_diagnostic 18 = .ok (.invokevirtual 520, 3) := by decide +kernel
theorem dX11_diagnostic_21 : decode cX11_diagnostic 21 = .ok (.aload_n 0, 1) := by decide +kernel
theorem dX11_diagnostic_22 : decode cX11_diagnostic 22 = .ok (.getfield 35, 3) := by decide +kernel
theorem dX11_diagnostic_25 : decode cX11_diagnostic 25 = .ok (.ldc_w 522, 3) := by decide +kernel
theorem dX11_diagnostic_28 : decode cX11_diagnostic 28 = .ok (.invokevirtual 297, 3) := by decide +kernel
theorem dX11_diagnostic_31 : decode cX11_diagnostic 31 = .ok (.aload_n 0, 1) := by decide +kernel
theorem dX11_diagnostic_32 : decode cX11_diagnostic 32 = .ok (.aload_n 1, 1) := by decide +kernel
theorem dX11_diagnostic_33 : decode cX11_diagnostic 33 = .ok (.aload_n 1, 1) := by decide +kernel
theorem dX11_diagnostic_34 : decode cX11_diagnostic 34 = .ok (.getfield 185, 3) := by decide +kernel
theorem dX11_diagnostic_37 : decode cX11_diagnostic 37 = .ok (.iload_n 2, 1) := by decide +kernel
theorem dX11_diagnostic_38 : decode cX11_diagnostic 38 = .ok (.iaload, 1) := by decide +kernel
theorem dX11_diagnostic_39 : decode cX11_diagnostic 39 = .ok (.invokevirtual 520, 3) := by decide +kernel
theorem dX11_diagnostic_42 : decode cX11_diagnostic 42 = .ok (.aload_n 0, 1) := by decide +kernel
theorem dX11_diagnostic_43 : decode cX11_diagnostic 43 = .ok (.getfield 35, 3) := by decide +kernel
theorem dX11_diagnostic_46 : decode cX11_diagnostic 46 = .ok (.ldc_w 524, 3) := by decide +kernel
theorem dX11_diagnostic_49 : decode cX11_diagnostic 49 = .ok (.invokevirtual 297, 3) := by decide +kernel
theorem dX11_diagnostic_52 : decode cX11_diagnostic 52 = .ok (.aload_n 0, 1) := by decide +kernel
theorem dX11_diagnostic_53 : decode cX11_diagnostic 53 = .ok (.getfield 35, 3) := by decide +kernel
theorem dX11_diagnostic_56 : decode cX11_diagnostic 56 = .ok (.aload_n 1, 1) := by decide +kernel
theorem dX11_diagnostic_57 : decode cX11_diagnostic 57 = .ok (.getfield 178, 3) := by decide +kernel
theorem dX11_diagnostic_60 : decode cX11_diagnostic 60 = .ok (.iload_n 2, 1) := by decide +kernel
theorem dX11_diagnostic_61 : decode cX11_diagnostic 61 = .ok (.aaload, 1) := by decide +kernel
theorem dX11_diagnostic_62 : decode cX11_diagnostic 62 = .ok (.getfield 188, 3) := by decide +kernel
theorem dX11_diagnostic_65 : decode cX11_diagnostic 65 = .ok (.invokestatic 526, 3) := by decide +kernel
theorem dX11_diagnostic_68 : decode cX11_diagnostic 68 = .ok (.invokevirtual 297, 3) := by decide +kernel
theorem dX11_diagnostic_71 : decode cX11_diagnostic 71 = .ok (.aload_n 0, 1) := by decide +kernel
theorem dX11_diagnostic_72 : decode cX11_diagnostic 72 = .ok (.getfield 35, 3) := by decide +kernel
theorem dX11_diagnostic_75 : decode cX11_diagnostic 75 = .ok (.ldc_w 529, 3) := by decide +kernel
theorem dX11_diagnostic_78 : decode cX11_diagnostic 78 = .ok (.invokevirtual 297, 3) := by decide +kernel
theorem dX11_diagnostic_81 : decode cX11_diagnostic 81 = .ok (.return_, 1) := by decide +kernel
theorem dX11_position_0 : decode cX11_position 0 = .ok (.aload_n 1, 1) := by decide +kernel
theorem dX11_position_1 : decode cX11_position 1 = .ok (.iload_n 2, 1) := by decide +kernel
theorem dX11_position_2 : decode cX11_position 2 = .ok (.invokevirtual 531, 3) := by decide +kernel
theorem dX11_position_5 : decode cX11_position 5 = .ok (.aload_n 0, 1) := by decide +kernel
theorem dX11_position_6 : decode cX11_position 6 = .ok (.getfield 35, 3) := by decide +kernel
theorem dX11_position_9 : decode cX11_position 9 = .ok (.ldc_w 534, 3) := by decide +kernel
theorem dX11_position_12 : decode cX11_position 12 = .ok (.invokevirtual 297, 3) := by decide +kernel
theorem dX11_position_15 : decode cX11_position 15 = .ok (.aload_n 0, 1) := by decide +kernel
theorem dX11_position_16 : decode cX11_position 16 = .ok (.getfield 35, 3) := by decide +kernel
theorem dX11_position_19 : decode cX11_position 19 = .ok (.aload_n 1, 1) := by decide +kernel
theorem dX11_position_20 : decode cX11_position 20 = .ok (.getfield 536, 3) := by decide +kernel
theorem dX11_position_23 : decode cX11_position 23 = .ok (.invokevirtual 466, 3) := by decide +kernel
theorem dX11_position_26 : decode cX11_position 26 = .ok (.aload_n 0, 1) := by decide +kernel
theorem dX11_position_27 : decode cX11_position 27 = .ok (.getfield 35, 3) := by decide +kernel
theorem dX11_position_30 : decode cX11_position 30 = .ok (.ldc_w 538, 3) := by decide +kernel
theorem dX11_position_33 : decode cX11_position 33 = .ok (.invokevirtual 297, 3) := by decide +kernel
theorem dX11_position_36 : decode cX11_position 36 = .ok (.aload_n 0, 1) := by decide +kernel
theorem dX11_position_37 : decode cX11_position 37 = .ok (.getfield 35, 3) := by decide +kernel
theorem dX11_position_40 : decode cX11_position 40 = .ok (.iload_n 2, 1) := by decide +kernel
theorem dX11_position_41 : decode cX11_position 41 = .ok (.aload_n 1, 1) := by decide +kernel
theorem dX11_position_42 : decode cX11_position 42 = .ok (.getfield 540, 3) := by decide +kernel
theorem dX11_position_45 : decode cX11_position 45 = .ok (.isub, 1) := by decide +kernel
theorem dX11_position_46 : decode cX11_position 46 = .ok (.invokevirtual 466, 3) := by decide +kernel
theorem dX11_position_49 : decode cX11_position 49 = .ok (.aload_n 0, 1) := by decide +kernel
theorem dX11_position_50 : decode cX11_position 50 = .ok (.getfield 35, 3) := by decide +kernel
theorem dX11_position_53 : decode cX11_position 53 = .ok (.bipush 125, 2) := by decide +kernel
theorem dX11_position_55 : decode cX11_position 55 = .ok (.invokevirtual 246, 3) := by decide +kernel
theorem dX11_position_58 : decode cX11_position 58 = .ok (.return_, 1) := by decide +kernel
def EX11_beginAnswer : List (Nat × Nat) := [(2, 0), (2, 1), (196, 0)]
def EX11_position : List (Nat × Nat) := [(2, 0), (2, 1), (3, 14), (3, 15), (3, 16), (196, 0)]
def EX11_diagnostic : List (Nat × Nat) := [(2, 0), (2, 1), (3, 14), (3, 15), (3, 16), (196, 0)]
set_option maxHeartbeats 4000000 in
set_option maxRecDepth 20000 in
theorem uX11_beginAnswer (l : Launch) (dC : Nat → ClassId) (dI : Nat → Nat → Nat) (ca : Nat → ClassId) (base : Nat) (B : jF) (hB : jBok B) (hAp : jAp (dC, dI)) (hB2 : ∀ n G a H, B 2 n G a H ↔ jOb (dC, dI) 2 2 (F2 n G) a H) (hB10 : ∀ n G a H, B 10 n G a H ↔ jOb (dC, dI) 10 5 (F10 n G) a H) (hB13 : ∀ n G a H, B 13 n G a H ↔ jOb (dC, dI) 13 19 (F13 n G) a H) (hB17 : ∀ n G a H, B 17 n G a H ↔ jOb (dC, dI) 17 2 (F17 n G) a H) (hB196 : ∀ n G a H, B 196 n G a H ↔ jAr (dC, dI) (ca 0) (fun j z => jBf j z) n a H) (hB199 : ∀ n G a H, B 199 n G a H ↔ jAr (dC, dI) (ca 0) (fun j z => jBf j z) n a H) (G0 : jT) (H0 : Heap) (r0 : Nat) (r1 : Nat) (r2 : Nat) (n2 : Nat) (bo : Nat) (pc : Int32) (pa : Nat) (n_pa : Nat) (LC LS : Nat) : Met l yX11_beginAnswer (jw yX11_beginAnswer cX11_beginAnswer 3 none) ({ frames := 5, cells := LC - H0.size, slots := LS - jTot H0, locals := 163 }) (va_Pc [.ref r0, .ref r1, .ref r2] (fun U => U.heap = H0 ∧ jX B base G0 [] H0 ∧ jG dC dI ca base U ∧ jStr base r2 n2 U H0 ∧ G0 r1 = some (10, 0) ∧ G0 r0 = some (13, 0) ∧ G0 bo = some (2, 0) ∧ G0 pa = some (196, n_pa) ∧ jP (dC, dI) G0 H0 [(r0, 13, 4, .ref bo), (bo, 2, 1, .int pc), (bo, 2, 0, .ref pa)] ∧ jIs (dC, dI) G0 H0 [(jFy, jYb dC dI G0)] ∧ H0.size + (1048576 - n_pa) / 16 + 1 ≤ LC ∧ jTot H0 + 2 * (1048576 - n_pa) ≤ LS ∧ 0 ≤ pc.toInt ∧ pc.toInt ≤ n_pa ∧ 16 ≤ n_pa ∧ n_pa ≤ 1048576 ∧ jPw n_pa ∧ n2 < 2147483648)) (va_Qv (S := Int32 × Nat × Nat × jT) (fun u => 0 ≤ u.1.toInt ∧ u.1.toInt ≤ u.2.2.1 ∧ n_pa ≤ u.2.2.1 ∧ u.2.2.1 ≤ 1048576 ∧ jPw u.2.2.1) (fun u t => jRa (dC, dI) B base G0 u.2.2.2 EX11_beginAnswer H0 ((u.2.2.1 - n_pa) / 16) (2 * (u.2.2.1 - n_pa)) [(bo, 2, 1, .int u.1), (bo, 2, 0, .ref u.2.1)] t.heap ∧ u.2.2.2 u.2.1 = some (196, u.2.2.1) ∧ (jNk [0, 1, 2, 3, 4, 5, 6, 7, 8, 9, 10, 11, 12, 13, 14, 15, 16, 17, 175]) G0 u.2.2.2 ∧ jOl (dC, dI) G0 2 [bo] H0 t.heap ∧ jIs (dC, dI) u.2.2.2 t.heap [(jFy, jYb dC dI u.2.2.2)]) (jA base)) (LC - H0.size) (LS - jTot H0) (jA base) := by
  refine Met.ofW (cc := cX11_beginAnswer) (maxL := 3) (ret := none) (by decide) rfl ?_
  intro p e s m args below meth c s₁ Bd hml hv
  obtain ⟨rfl, hH0, hX, hG, hstr_r2, hg_r1, hg_r0, hg_bo, hg_pa, hP0, hI0, hLC0, hLS0, hp0, hp1, hp2, hp3, hp4, hp5⟩ := hv
  have hK := hG.1
  have hx := Bd.exec
  have hb := Bd.bytes
  have hr := Bd.returns
  have hts := atoms_spec (ws := (jw yX11_beginAnswer cX11_beginAnswer 3 none)) Bd.pre
  have htw : ∀ w ∈ jWl, w.before _ s = true := fun w h => hts w (List.mem_cons_of_mem _ h)
  have hown : s.vm.findClass RX11 = some m.cls := findClass_of_methodNamed Bd.named
  have hlocks := Bd.notSynchronized
  obtain ⟨Q, hQ⟩ : ∃ Q, Q = MQ below (va_Qv (S := Int32 × Nat × Nat × jT) (fun u => 0 ≤ u.1.toInt ∧ u.1.toInt ≤ u.2.2.1 ∧ n_pa ≤ u.2.2.1 ∧ u.2.2.1 ≤ 1048576 ∧ jPw u.2.2.1) (fun u t => jRa (dC, dI) B base G0 u.2.2.2 EX11_beginAnswer H0 ((u.2.2.1 - n_pa) / 16) (2 * (u.2.2.1 - n_pa)) [(bo, 2, 1, .int u.1), (bo, 2, 0, .ref u.2.1)] t.heap ∧ u.2.2.2 u.2.1 = some (196, u.2.2.1) ∧ (jNk [0, 1, 2, 3, 4, 5, 6, 7, 8, 9, 10, 11, 12, 13, 14, 15, 16, 17, 175]) G0 u.2.2.2 ∧ jOl (dC, dI) G0 2 [bo] H0 t.heap ∧ jIs (dC, dI) u.2.2.2 t.heap [(jFy, jYb dC dI u.2.2.2)]) (jA base)) ([.ref r0, .ref r1, .ref r2] : List Value).toArray s (LC - H0.size) (LS - jTot H0) (jA base) := ⟨_, rfl⟩
  rw [← hQ]
  have hl := lv_entry ([.ref r0, .ref r1, .ref r2]) (n := 3) (Nat.le_of_ble_eq_true rfl)
  rw [lg_entry_eq]
  generalize (lg_sl ([.ref r0, .ref r1, .ref r2]) ++ List.replicate (3 - (lg_sl ([.ref r0, .ref r1, .ref r2])).length) Slot.unset).toArray = ls at hl ⊢
  have hl : lv_has ls 3 [(0, .ref r0), (1, .ref r1), (2, .ref r2)] := hl
  generalize hR : (headSpec (jw yX11_beginAnswer cX11_beginAnswer 3 none) ({ frames := 5, cells := LC - H0.size, slots := LS - jTot H0, locals := 163 })).room = R
  subst hH0
  have hh : jSt (dC, dI) B base G0 G0 EX11_beginAnswer s.heap 0 0 [(r0, 13, 4, .ref bo), (bo, 2, 1, .int pc), (bo, 2, 0, .ref pa)] [] [(jFy, jYb dC dI G0)] s.heap [] := jSt.start hX hP0 jMc.nil hI0
  clear hX hP0
  have hk0 : (0 : Int32).toInt = 0 := by decide
  have hk1 : (1 : Int32).toInt = 1 := by decide
  have hly_2_1 := htw (u_lay RX0 TX0 1) (jWc_wsX00 _ (u_in_lay (by decide)))
  have hly_10_0 := htw (u_lay RX8 TX8 0) (jWc_wsX80 _ (u_in_lay (by decide)))
  have hly_13_4 := htw (u_lay RX11 TX11 4) (jWc_wsX110 _ (u_in_lay (by decide)))
  have hlk_35 := (htw (.fieldLink RX11 35 "ProofServer" "body" "LProofServer$Bytes;") (jWr_2 _ (List.mem_of_getElem? (i := 1) rfl)))
  have hlk_92 := (htw (.fieldLink RX11 92 "ProofServer$Bytes" "count" "I") (jWr_15 _ (List.mem_of_getElem? (i := 18) rfl)))
  obtain ⟨str491, rstr491, hstr4910⟩ := hG.str (o := RX11) (k := 491) (tx := "{\"jsonrpc\":\"2.0\",\"id\":") (List.mem_of_getElem? (i := 826) (by decide +kernel))
  have hstr491 : jStr base str491 22 s s.heap := hstr4910
  have hlk_114 := (htw (.fieldLink RX11 114 "ProofServer$Request" "id" "LProofServer$Bytes;") (jWr_17 _ (List.mem_of_getElem? (i := 9) rfl)))
  obtain ⟨str493, rstr493, hstr4930⟩ := hG.str (o := RX11) (k := 493) (tx := "null") (List.mem_of_getElem? (i := 828) (by decide +kernel))
  have hstr493 : jStr base str493 4 s s.heap := hstr4930
  have hbs : base ≤ s.heap.size := Nat.le_of_lt (Nat.lt_of_le_of_lt (hh.ab hg_r0).1 (hh.ab hg_r0).2)
  have hRc : R.cells = LC - s.heap.size := by rw [← hR]; rfl
  have hRs : R.slots = LS - jTot s.heap := by rw [← hR]; rfl
  have hh_1 := hh.addI (jOl.ie (dC := dC) (dI := dI) (G0 := G0) (k := 2) (rs := [bo]) (H0 := s.heap) (F := [(2, 0), (2, 1)]) (C := RX0) (T := TX0) (N := 2) rfl (by decide) hh.2.2.2.2.1 (jOl.rf))
  clear hh
  refine lv_aload_n hx hb dX11_beginAnswer_0 rfl (lv_at hl 0 rfl) ?_
  refine j7_read hx hb hown hK (C := RX11) (T := TX11) (N := 19) rfl hly_13_4 hlk_35 (hh_1.at 0 rfl) dX11_beginAnswer_1 ?_
  refine lv_iconst (v := 0) hx hb dX11_beginAnswer_4 (by decide) ?_
  have hd_3 := hh_1.iv 0 rfl
  have hd_4 := hh_1.iv 1 rfl
  have hh_5 := hh_1.sub (L1 := [(r0, 13, 4, .ref bo), (bo, 2, 1, .int pc), (bo, 2, 0, .ref pa)]) [0, 1, 2] rfl (M1 := []) [] rfl (I1 := []) [] rfl
  clear hh_1
  refine j7_putX hx hb hown hK hh_5 hB hAp hB2 (C := RX0) (T := TX0) (N := 2) rfl (by decide) hg_bo (i := 1) (by decide) hly_2_1 rfl hlk_92 rfl (ty := .int) (v := .int 0) (by decide +kernel) rfl rfl (⟨_, rfl, by omega, by omega, by omega⟩) rfl (L1 := [(r0, 13, 4, .ref bo), (bo, 2, 0, .ref pa)]) [0, 2] rfl rfl rfl dX11_beginAnswer_5 (fun H_2 locs_2 hr_2 hh_2 => ?_)
  clear hh_5
  have hd_4n := jYb.put hd_4 hr_2 hg_bo (fun h9 => ⟨_, _, _, hh_2.at 0 rfl, hh_2.at 2 rfl, hg_pa, by omega⟩)
  have hd_3n := jOl.put hd_3 hr_2 (by simp)
  have hh_6 := hh_2.addI (jYb.ie hd_4n)
  clear hh_2
  have hh_7 := hh_6.addI (jOl.ie (dC := dC) (dI := dI) (G0 := G0) (k := 2) (rs := [bo]) (H0 := s.heap) (F := [(2, 0), (2, 1)]) (C := RX0) (T := TX0) (N := 2) rfl (by decide) hh_6.2.2.2.2.1 (hd_3n))
  clear hh_6
  clear hd_3 hd_3n hd_4 hd_4n hr_2
  refine lv_aload_n hx hb dX11_beginAnswer_8 rfl (lv_at hl 0 rfl) ?_
  refine j7_read hx hb hown hK (C := RX11) (T := TX11) (N := 19) rfl hly_13_4 hlk_35 (hh_7.at 1 rfl) dX11_beginAnswer_9 ?_
  refine j_ldcSw hx hb hown rstr491 dX11_beginAnswer_12 ?_
  have hsz_8 := hh_7.2.2.2.2.2.1
  have htt_8 := hh_7.2.2.2.2.2.2.1
  refine W.room (fun hrc_8 hrs_8 => ?_)
  refine va_callv (A0 := jA base) (H0 := s.heap) (va_runV (As := [.ref str491]) (rest := []) ⟨hx, hb, hml, hown, hts⟩ (uX0_text l dC dI ca base B hB hAp hB2 hB196 G0 H_2 bo str491 22 0 pa n_pa LC LS) (cwV 1 hts (jgV (jWr_26 _ (List.mem_of_getElem? (i := 11) rfl)) (jWr_25 _ (List.mem_of_getElem? (i := 22) rfl)) (jWr_25 _ (List.mem_of_getElem? (i := 23) rfl)) (jWr_1 _ (List.mem_of_getElem? (i := 14) rfl)) (jWr_26 _ (List.mem_of_getElem? (i := 0) rfl))) rfl rfl rfl (by decide +kernel) ⟨by rw [← hR]; exact Nat.le_of_ble_eq_true rfl, by rw [← hR]; exact Nat.le_of_ble_eq_true rfl⟩) ⟨fun a U g mk q => by obtain ⟨q0, q1, q2, qK, q10, q11, q12, q13, q14⟩ := q; exact ⟨q0, q1, q2, jG.calling g mk a qK, (q10.moved (Vm.Alike.refl U.vm)), q11, q12, q13, q14⟩, hh_7.recv (C := RX0) (T := TX0) (N := 2) hB2 rfl (by decide) hg_bo hK, fun U hU hW => ⟨rfl, hU, hh_7.2.1, hG.step hW hU hh_7.1, (hstr491.moved hW.alike).kept hh_7.1.2.1, hg_bo, hg_pa, (hh_7.2.2.1.sub (L1 := [(bo, 2, 1, .int 0), (bo, 2, 0, .ref pa)]) [0, 2] rfl), (by omega), (by omega), ⟨(by first | omega | rfl | assumption | fail), (by first | omega | rfl | assumption | fail), (by first | omega | rfl | assumption | fail), (by first | omega | rfl | assumption | fail), (by first | assumption | fail | omega), (by first | omega | rfl | assumption | fail)⟩⟩⟩ rfl rfl hl.1 rfl (lv_room (Nat.le_of_ble_eq_true rfl)) dX11_beginAnswer_15 ⟨by rw [hRc]; omega, by rw [hRs]; omega⟩) hh_7.1 (fun q _ h => h) (fun q h => h) (fun u_8 t_8 H_8 locs_8 ht_8 hvm_8 hr_9 hb_8 hz_8 hk_8 hS_8 => ?_)
  obtain ⟨qc_8, qa_8, m_qa_8, G_8⟩ := u_8
  rw [ht_8] at hb_8
  simp only at hb_8
  obtain ⟨⟨hb_81, hb_82, hb_83, hb_84, hb_85, hb_86⟩, hgq_8_0, hN_8, hbO_8⟩ := hb_8
  have hy_10 := hh_7.iv 1 rfl
  have hh_8 : jSt (dC, dI) B base G0 G_8 EX11_beginAnswer s.heap (0 + ((m_qa_8 - n_pa) / 16)) (0 + (2 * (m_qa_8 - n_pa))) [(bo, 2, 1, .int qc_8), (bo, 2, 0, .ref qa_8), (r0, 13, 4, .ref bo)] [] [] H_8 locs_8 := (hh_7.callG hb_81 hb_82 hb_83 hb_84 hb_85 hS_8 rfl (L1 := [(r0, 13, 4, .ref bo)]) [1] rfl rfl (M1 := []) [] rfl rfl (I1 := []) [] rfl rfl).more hb_86
  have hNn_8 : (jNk [0, 1, 2, 3, 4, 5, 6, 7, 8, 9, 10, 11, 12, 13, 14, 15, 16, 17, 175]) G0 G_8 := (jNk.rf).tr hN_8
  have hg_11 := hb_82 _ _ hg_r0
  have hg_12 := hb_82 _ _ hg_r1
  have hg_13 := hb_82 _ _ hg_bo
  have hd_14 := jOl.trO (hh_7.iv 0 rfl) hh_7.2.2.2.2.1 hbO_8 (by simp)
  have hh_15 := hh_8.addI (jOl.ie (dC := dC) (dI := dI) (G0 := G0) (k := 2) (rs := [bo]) (H0 := s.heap) (F := [(2, 0), (2, 1)]) (C := RX0) (T := TX0) (N := 2) rfl (by decide) hh_8.2.2.2.2.1 (hd_14))
  clear hh_8
  have hyp_8 : qc_8.toInt ≤ (m_qa_8 : Nat) ∧ m_qa_8 ≤ 1048576 := by (try simp only at hr_9); omega
  have hy_16 := jYb.own hy_10 hbO_8 hb_82 hN_8 (by decide) (fun _ => ⟨_, _, _, hh_15.at 0 rfl, hh_15.at 1 rfl, hgq_8_0, hyp_8⟩)
  have hh_17 := hh_15.addI (jYb.ie hy_16)
  clear hh_15
  try simp only at hr_9
  obtain ⟨hr_9_0, hr_9_1, hr_9_2, hr_9_3, hr_9_4⟩ := hr_9
  have hh_18 := hh_17.wk (zc1 := (m_qa_8 - n_pa) / 16) (zs1 := 2 * (m_qa_8 - n_pa)) (by omega) (by omega)
  clear hh_17
  try clear hsz_8 htt_8 hrc_8 hrs_8
  try clear hb_84 hb_85
  refine lv_aload_n hx hb dX11_beginAnswer_18 rfl (lv_at hl 1 rfl) ?_
  obtain ⟨v_19, hv_19, hh_20⟩ := hh_18.pin (C := RX8) (T := TX8) (N := 5) hB10 rfl (by decide) hg_12 (i := 0) (by decide) rfl
  clear hh_18
  rcases hv_19 with rfl | ⟨id_21, rfl, hg_id_21⟩
  · refine j7_read hx hb hown hK (C := RX8) (T := TX8) (N := 5) rfl hly_10_0 hlk_114 (hh_20.at 0 rfl) dX11_beginAnswer_19 ?_
    refine lv_ifnonnullN hx hb dX11_beginAnswer_22 ?_
    refine lv_aload_n hx hb dX11_beginAnswer_25 rfl (lv_at hl 0 rfl) ?_
    refine j7_read hx hb hown hK (C := RX11) (T := TX11) (N := 19) rfl hly_13_4 hlk_35 (hh_20.at 3 rfl) dX11_beginAnswer_26 ?_
    refine j_ldcSw hx hb hown rstr493 dX11_beginAnswer_29 ?_
    have hsz_22 := hh_20.2.2.2.2.2.1
    have htt_22 := hh_20.2.2.2.2.2.2.1
    refine W.room (fun hrc_22 hrs_22 => ?_)
    refine va_callv (A0 := jA base) (H0 := s.heap) (va_runV (As := [.ref str493]) (rest := []) ⟨hx, hb, hml, hown, hts⟩ (uX0_text l dC dI ca base B hB hAp hB2 hB196 G_8 H_8 bo str493 4 qc_8 qa_8 m_qa_8 LC LS) (cwV 1 hts (jgV (jWr_26 _ (List.mem_of_getElem? (i := 11) rfl)) (jWr_25 _ (List.mem_of_getElem? (i := 22) rfl)) (jWr_25 _ (List.mem_of_getElem? (i := 23) rfl)) (jWr_1 _ (List.mem_of_getElem? (i := 14) rfl)) (jWr_26 _ (List.mem_of_getElem? (i := 0) rfl))) rfl rfl rfl (by decide +kernel) ⟨by rw [← hR]; exact Nat.le_of_ble_eq_true rfl, by rw [← hR]; exact Nat.le_of_ble_eq_true rfl⟩) ⟨fun a U g mk q => by obtain ⟨q0, q1, q2, qK, q10, q11, q12, q13, q14⟩ := q; exact ⟨q0, q1, q2, jG.calling g mk a qK, (q10.moved (Vm.Alike.refl U.vm)), q11, q12, q13, q14⟩, hh_20.recv (C := RX0) (T := TX0) (N := 2) hB2 rfl (by decide) hg_13 hK, fun U hU hW => ⟨rfl, hU, hh_20.2.1, hG.step hW hU hh_20.1, (hstr493.moved hW.alike).kept hh_20.1.2.1, hg_13, hgq_8_0, (hh_20.2.2.1.sub (L1 := [(bo, 2, 1, .int qc_8), (bo, 2, 0, .ref qa_8)]) [1, 2] rfl), (by omega), (by omega), ⟨(by first | omega | rfl | assumption | fail), (by first | omega | rfl | assumption | fail), (by first | omega | rfl | assumption | fail), (by first | omega | rfl | assumption | fail), (by first | assumption | fail | omega), (by first | omega | rfl | assumption | fail)⟩⟩⟩ rfl rfl hl.1 rfl (lv_room (Nat.le_of_ble_eq_true rfl)) dX11_beginAnswer_32 ⟨by rw [hRc]; omega, by rw [hRs]; omega⟩) hh_20.1 (fun q _ h => h) (fun q h => h) (fun u_22 t_22 H_22 locs_22 ht_22 hvm_22 hr_23 hb_22 hz_22 hk_22 hS_22 => ?_)
    obtain ⟨qc_22, qa_22, m_qa_22, G_22⟩ := u_22
    rw [ht_22] at hb_22
    simp only at hb_22
    obtain ⟨⟨hb_221, hb_222, hb_223, hb_224, hb_225, hb_226⟩, hgq_22_0, hN_22, hbO_22⟩ := hb_22
    have hy_24 := hh_20.iv 0 rfl
    have hh_22 : jSt (dC, dI) B base G0 G_22 EX11_beginAnswer s.heap (((m_qa_8 - n_pa) / 16) + ((m_qa_22 - m_qa_8) / 16)) ((2 * (m_qa_8 - n_pa)) + (2 * (m_qa_22 - m_qa_8))) [(bo, 2, 1, .int qc_22), (bo, 2, 0, .ref qa_22), (r1, 10, 0, .null), (r0, 13, 4, .ref bo)] [] [] H_22 locs_22 := (hh_20.callG hb_221 hb_222 hb_223 hb_224 hb_225 hS_22 rfl (L1 := [(r1, 10, 0, .null), (r0, 13, 4, .ref bo)]) [0, 3] rfl rfl (M1 := []) [] rfl rfl (I1 := []) [] rfl rfl).more hb_226
    have hNn_22 : (jNk [0, 1, 2, 3, 4, 5, 6, 7, 8, 9, 10, 11, 12, 13, 14, 15, 16, 17, 175]) G0 G_22 := (hNn_8).tr hN_22
    have hg_25 := hb_222 _ _ hg_11
    have hg_26 := hb_222 _ _ hg_12
    have hg_27 := hb_222 _ _ hg_13
    have hd_28 := jOl.trO (hh_20.iv 1 rfl) hh_20.2.2.2.2.1 hbO_22 (by simp)
    have hh_29 := hh_22.addI (jOl.ie (dC := dC) (dI := dI) (G0 := G0) (k := 2) (rs := [bo]) (H0 := s.heap) (F := [(2, 0), (2, 1)]) (C := RX0) (T := TX0) (N := 2) rfl (by decide) hh_22.2.2.2.2.1 (hd_28))
    clear hh_22
    have hyp_22 : qc_22.toInt ≤ (m_qa_22 : Nat) ∧ m_qa_22 ≤ 1048576 := by (try simp only at hr_23); omega
    have hy_30 := jYb.own hy_24 hbO_22 hb_222 hN_22 (by decide) (fun _ => ⟨_, _, _, hh_29.at 0 rfl, hh_29.at 1 rfl, hgq_22_0, hyp_22⟩)
    have hh_31 := hh_29.addI (jYb.ie hy_30)
    clear hh_29
    try simp only at hr_23
    obtain ⟨hr_23_0, hr_23_1, hr_23_2, hr_23_3, hr_23_4⟩ := hr_23
    have hh_32 := hh_31.wk (zc1 := (m_qa_22 - n_pa) / 16) (zs1 := 2 * (m_qa_22 - n_pa)) (by omega) (by omega)
    clear hh_31
    try clear hsz_22 htt_22 hrc_22 hrs_22
    try clear hb_224 hb_225
    refine lv_goto (tgt := 49) hx hb dX11_beginAnswer_35 (by decide) ?_
    refine lv_aload_n hx hb dX11_beginAnswer_49 rfl (lv_at hl 0 rfl) ?_
    refine j7_read hx hb hown hK (C := RX11) (T := TX11) (N := 19) rfl hly_13_4 hlk_35 (hh_32.at 3 rfl) dX11_beginAnswer_50 ?_
    refine lv_aload_n hx hb dX11_beginAnswer_53 rfl (lv_at hl 2 rfl) ?_
    have hsz_33 := hh_32.2.2.2.2.2.1
    have htt_33 := hh_32.2.2.2.2.2.2.1
    refine W.room (fun hrc_33 hrs_33 => ?_)
    refine va_callv (A0 := jA base) (H0 := s.heap) (va_runV (As := [.ref r2]) (rest := []) ⟨hx, hb, hml, hown, hts⟩ (uX0_text l dC dI ca base B hB hAp hB2 hB196 G_22 H_22 bo r2 n2 qc_22 qa_22 m_qa_22 LC LS) (cwV 1 hts (jgV (jWr_26 _ (List.mem_of_getElem? (i := 11) rfl)) (jWr_25 _ (List.mem_of_getElem? (i := 22) rfl)) (jWr_25 _ (List.mem_of_getElem? (i := 23) rfl)) (jWr_1 _ (List.mem_of_getElem? (i := 14) rfl)) (jWr_26 _ (List.mem_of_getElem? (i := 0) rfl))) rfl rfl rfl (by decide +kernel) ⟨by rw [← hR]; exact Nat.le_of_ble_eq_true rfl, by rw [← hR]; exact Nat.le_of_ble_eq_true rfl⟩) ⟨fun a U g mk q => by obtain ⟨q0, q1, q2, qK, q10, q11, q12, q13, q14⟩ := q; exact ⟨q0, q1, q2, jG.calling g mk a qK, (q10.moved (Vm.Alike.refl U.vm)), q11, q12, q13, q14⟩, hh_32.recv (C := RX0) (T := TX0) (N := 2) hB2 rfl (by decide) hg_27 hK, fun U hU hW => ⟨rfl, hU, hh_32.2.1, hG.step hW hU hh_32.1, (hstr_r2.moved hW.alike).kept hh_32.1.2.1, hg_27, hgq_22_0, (hh_32.2.2.1.sub (L1 := [(bo, 2, 1, .int qc_22), (bo, 2, 0, .ref qa_22)]) [0, 1] rfl), (by omega), (by omega), ⟨(by first | omega | rfl | assumption | fail), (by first | omega | rfl | assumption | fail), (by first | omega | rfl | assumption | fail), (by first | omega | rfl | assumption | fail), (by first | assumption | fail | omega), (by first | omega | rfl | assumption | fail)⟩⟩⟩ rfl rfl hl.1 rfl (lv_room (Nat.le_of_ble_eq_true rfl)) dX11_beginAnswer_54 ⟨by rw [hRc]; omega, by rw [hRs]; omega⟩) hh_32.1 (fun q _ h => h) (fun q h => h) (fun u_33 t_33 H_33 locs_33 ht_33 hvm_33 hr_34 hb_33 hz_33 hk_33 hS_33 => ?_)
    obtain ⟨qc_33, qa_33, m_qa_33, G_33⟩ := u_33
    rw [ht_33] at hb_33
    simp only at hb_33
    obtain ⟨⟨hb_331, hb_332, hb_333, hb_334, hb_335, hb_336⟩, hgq_33_0, hN_33, hbO_33⟩ := hb_33
    have hy_35 := hh_32.iv 0 rfl
    have hh_33 : jSt (dC, dI) B base G0 G_33 EX11_beginAnswer s.heap (((m_qa_22 - n_pa) / 16) + ((m_qa_33 - m_qa_22) / 16)) ((2 * (m_qa_22 - n_pa)) + (2 * (m_qa_33 - m_qa_22))) [(bo, 2, 1, .int qc_33), (bo, 2, 0, .ref qa_33), (r1, 10, 0, .null), (r0, 13, 4, .ref bo)] [] [] H_33 locs_33 := (hh_32.callG hb_331 hb_332 hb_333 hb_334 hb_335 hS_33 rfl (L1 := [(r1, 10, 0, .null), (r0, 13, 4, .ref bo)]) [2, 3] rfl rfl (M1 := []) [] rfl rfl (I1 := []) [] rfl rfl).more hb_336
    have hNn_33 : (jNk [0, 1, 2, 3, 4, 5, 6, 7, 8, 9, 10, 11, 12, 13, 14, 15, 16, 17, 175]) G0 G_33 := (hNn_22).tr hN_33
    have hg_36 := hb_332 _ _ hg_25
    have hg_37 := hb_332 _ _ hg_26
    have hg_38 := hb_332 _ _ hg_27
    have hd_39 := jOl.trO (hh_32.iv 1 rfl) hh_32.2.2.2.2.1 hbO_33 (by simp)
    have hh_40 := hh_33.addI (jOl.ie (dC := dC) (dI := dI) (G0 := G0) (k := 2) (rs := [bo]) (H0 := s.heap) (F := [(2, 0), (2, 1)]) (C := RX0) (T := TX0) (N := 2) rfl (by decide) hh_33.2.2.2.2.1 (hd_39))
    clear hh_33
    have hyp_33 : qc_33.toInt ≤ (m_qa_33 : Nat) ∧ m_qa_33 ≤ 1048576 := by (try simp only at hr_34); omega
    have hy_41 := jYb.own hy_35 hbO_33 hb_332 hN_33 (by decide) (fun _ => ⟨_, _, _, hh_40.at 0 rfl, hh_40.at 1 rfl, hgq_33_0, hyp_33⟩)
    have hh_42 := hh_40.addI (jYb.ie hy_41)
    clear hh_40
    try simp only at hr_34
    obtain ⟨hr_34_0, hr_34_1, hr_34_2, hr_34_3, hr_34_4⟩ := hr_34
    have hh_43 := hh_42.wk (zc1 := (m_qa_33 - n_pa) / 16) (zs1 := 2 * (m_qa_33 - n_pa)) (by omega) (by omega)
    clear hh_42
    try clear hsz_33 htt_33 hrc_33 hrs_33
    try clear hb_334 hb_335
    have hsz_44 := hh_43.2.2.2.2.2.1
    have htt_44 := hh_43.2.2.2.2.2.2.1
    refine W.room (fun hrc_44 hrs_44 => ?_)
    refine W.widen (k := LC - s.heap.size) (n := LS - jTot s.heap) (by omega) (by omega) ?_
    rw [hQ]
    exact W.vret hx hb hr (fun t ht hW => ⟨⟨(qc_33, qa_33, m_qa_33, G_33), rfl, by (try dsimp only); exact ⟨(by first | omega | rfl | assumption | fail), (by first | omega | rfl | assumption | fail), (by first | omega | rfl | assumption | fail), (by first | omega | rfl | assumption | fail), (by first | assumption | fail | omega)⟩, ⟨hh_43.ra (by first | omega | (simp only; omega)) (by first | omega | (simp only; omega)) (M1 := [(bo, 2, 1, .int qc_33), (bo, 2, 0, .ref qa_33)]) [0, 1] rfl ht, hgq_33_0, hNn_33, by rw [ht]; exact hh_43.iv 1 rfl, by rw [ht]; exact hh_43.2.2.2.2.2.2.2.2.sub (L1 := [(jFy, jYb dC dI G_33)]) [0] rfl⟩⟩, by rw [ht]; try exact hh_43.1.1, fun q h9 hq => by rw [ht]; try exact hh_43.1.2.1 q h9 hq⟩) hh_43.1.2.2 dX11_beginAnswer_57
  · refine j7_read hx hb hown hK (C := RX8) (T := TX8) (N := 5) rfl hly_10_0 hlk_114 (hh_20.at 0 rfl) dX11_beginAnswer_19 ?_
    refine lv_ifnonnull (tgt := 38) hx hb dX11_beginAnswer_22 (by decide) ?_
    refine lv_aload_n hx hb dX11_beginAnswer_38 rfl (lv_at hl 0 rfl) ?_
    refine j7_read hx hb hown hK (C := RX11) (T := TX11) (N := 19) rfl hly_13_4 hlk_35 (hh_20.at 3 rfl) dX11_beginAnswer_39 ?_
    refine lv_aload_n hx hb dX11_beginAnswer_42 rfl (lv_at hl 1 rfl) ?_
    refine j7_read hx hb hown hK (C := RX8) (T := TX8) (N := 5) rfl hly_10_0 hlk_114 (hh_20.at 0 rfl) dX11_beginAnswer_43 ?_
    have hsz_45 := hh_20.2.2.2.2.2.1
    have htt_45 := hh_20.2.2.2.2.2.2.1
    refine W.room (fun hrc_45 hrs_45 => ?_)
    refine va_callv (A0 := jA base) (H0 := s.heap) (va_runV (As := [.ref id_21]) (rest := []) ⟨hx, hb, hml, hown, hts⟩ (uX0_appendI l dC dI ca base B hB hAp hB2 hB17 hB196 hB199 G_8 H_8 bo id_21 qc_8 qa_8 m_qa_8 LC LS) (cwV 1 hts (jgV (jWr_26 _ (List.mem_of_getElem? (i := 12) rfl)) (jWr_26 _ (List.mem_of_getElem? (i := 13) rfl)) (jWr_26 _ (List.mem_of_getElem? (i := 14) rfl)) (jWr_1 _ (List.mem_of_getElem? (i := 14) rfl)) (jWr_26 _ (List.mem_of_getElem? (i := 15) rfl))) rfl rfl rfl (by decide +kernel) ⟨by rw [← hR]; exact Nat.le_of_ble_eq_true rfl, by rw [← hR]; exact Nat.le_of_ble_eq_true rfl⟩) ⟨fun a U g mk q => by obtain ⟨q0, q1, q2, qK, q10, q11, q12, q13, q14⟩ := q; exact ⟨q0, q1, q2, jG.calling g mk a qK, q10, q11, q12, q13, q14⟩, hh_20.recv (C := RX0) (T := TX0) (N := 2) hB2 rfl (by decide) hg_13 hK, fun U hU hW => ⟨rfl, hU, hh_20.2.1, hG.step hW hU hh_20.1, hg_13, hg_id_21, hgq_8_0, (hh_20.2.2.1.sub (L1 := [(bo, 2, 1, .int qc_8), (bo, 2, 0, .ref qa_8)]) [1, 2] rfl), (by omega), (by omega), ⟨(by first | omega | rfl | assumption | fail), (by first | omega | rfl | assumption | fail), (by first | omega | rfl | assumption | fail), (by first | omega | rfl | assumption | fail), (by first | assumption | fail | omega)⟩⟩⟩ rfl rfl hl.1 rfl (lv_room (Nat.le_of_ble_eq_true rfl)) dX11_beginAnswer_46 ⟨by rw [hRc]; omega, by rw [hRs]; omega⟩) hh_20.1 (fun q _ h => h) (fun q h => h) (fun u_45 t_45 H_45 locs_45 ht_45 hvm_45 hr_46 hb_45 hz_45 hk_45 hS_45 => ?_)
    obtain ⟨qc_45, qa_45, m_qa_45, G_45⟩ := u_45
    rw [ht_45] at hb_45
    simp only at hb_45
    obtain ⟨⟨hb_451, hb_452, hb_453, hb_454, hb_455, hb_456⟩, hgq_45_0, hN_45, hbO_45⟩ := hb_45
    have hy_47 := hh_20.iv 0 rfl
    have hh_45 : jSt (dC, dI) B base G0 G_45 EX11_beginAnswer s.heap (((m_qa_8 - n_pa) / 16) + ((m_qa_45 - m_qa_8) / 16)) ((2 * (m_qa_8 - n_pa)) + (2 * (m_qa_45 - m_qa_8))) [(bo, 2, 1, .int qc_45), (bo, 2, 0, .ref qa_45), (r1, 10, 0, .ref id_21), (r0, 13, 4, .ref bo)] [] [] H_45 locs_45 := (hh_20.callG hb_451 hb_452 hb_453 hb_454 hb_455 hS_45 rfl (L1 := [(r1, 10, 0, .ref id_21), (r0, 13, 4, .ref bo)]) [0, 3] rfl rfl (M1 := []) [] rfl rfl (I1 := []) [] rfl rfl).more hb_456
    have hNn_45 : (jNk [0, 1, 2, 3, 4, 5, 6, 7, 8, 9, 10, 11, 12, 13, 14, 15, 16, 17, 175]) G0 G_45 := (hNn_8).tr hN_45
    have hg_48 := hb_452 _ _ hg_11
    have hg_49 := hb_452 _ _ hg_12
    have hg_50 := hb_452 _ _ hg_id_21
    have hg_51 := hb_452 _ _ hg_13
    have hd_52 := jOl.trO (hh_20.iv 1 rfl) hh_20.2.2.2.2.1 hbO_45 (by simp)
    have hh_53 := hh_45.addI (jOl.ie (dC := dC) (dI := dI) (G0 := G0) (k := 2) (rs := [bo]) (H0 := s.heap) (F := [(2, 0), (2, 1)]) (C := RX0) (T := TX0) (N := 2) rfl (by decide) hh_45.2.2.2.2.1 (hd_52))
    clear hh_45
    have hyp_45 : qc_45.toInt ≤ (m_qa_45 : Nat) ∧ m_qa_45 ≤ 1048576 := by (try simp only at hr_46); omega
    have hy_54 := jYb.own hy_47 hbO_45 hb_452 hN_45 (by decide) (fun _ => ⟨_, _, _, hh_53.at 0 rfl, hh_53.at 1 rfl, hgq_45_0, hyp_45⟩)
    have hh_55 := hh_53.addI (jYb.ie hy_54)
    clear hh_53
    try simp only at hr_46
    obtain ⟨hr_46_0, hr_46_1, hr_46_2, hr_46_3, hr_46_4⟩ := hr_46
    have hh_56 := hh_55.wk (zc1 := (m_qa_45 - n_pa) / 16) (zs1 := 2 * (m_qa_45 - n_pa)) (by omega) (by omega)
    clear hh_55
    try clear hsz_45 htt_45 hrc_45 hrs_45
    try clear hb_454 hb_455
    refine lv_aload_n hx hb dX11_beginAnswer_49 rfl (lv_at hl 0 rfl) ?_
    refine j7_read hx hb hown hK (C := RX11) (T := TX11) (N := 19) rfl hly_13_4 hlk_35 (hh_56.at 3 rfl) dX11_beginAnswer_50 ?_
    refine lv_aload_n hx hb dX11_beginAnswer_53 rfl (lv_at hl 2 rfl) ?_
    have hsz_57 := hh_56.2.2.2.2.2.1
    have htt_57 := hh_56.2.2.2.2.2.2.1
    refine W.room (fun hrc_57 hrs_57 => ?_)
    refine va_callv (A0 := jA base) (H0 := s.heap) (va_runV (As := [.ref r2]) (rest := []) ⟨hx, hb, hml, hown, hts⟩ (uX0_text l dC dI ca base B hB hAp hB2 hB196 G_45 H_45 bo r2 n2 qc_45 qa_45 m_qa_45 LC LS) (cwV 1 hts (jgV (jWr_26 _ (List.mem_of_getElem? (i := 11) rfl)) (jWr_25 _ (List.mem_of_getElem? (i := 22) rfl)) (jWr_25 _ (List.mem_of_getElem? (i := 23) rfl)) (jWr_1 _ (List.mem_of_getElem? (i := 14) rfl)) (jWr_26 _ (List.mem_of_getElem? (i := 0) rfl))) rfl rfl rfl (by decide +kernel) ⟨by rw [← hR]; exact Nat.le_of_ble_eq_true rfl, by rw [← hR]; exact Nat.le_of_ble_eq_true rfl⟩) ⟨fun a U g mk q => by obtain ⟨q0, q1, q2, qK, q10, q11, q12, q13, q14⟩ := q; exact ⟨q0, q1, q2, jG.calling g mk a qK, (q10.moved (Vm.Alike.refl U.vm)), q11, q12, q13, q14⟩, hh_56.recv (C := RX0) (T := TX0) (N := 2) hB2 rfl (by decide) hg_51 hK, fun U hU hW => ⟨rfl, hU, hh_56.2.1, hG.step hW hU hh_56.1, (hstr_r2.moved hW.alike).kept hh_56.1.2.1, hg_51, hgq_45_0, (hh_56.2.2.1.sub (L1 := [(bo, 2, 1, .int qc_45), (bo, 2, 0, .ref qa_45)]) [0, 1] rfl), (by omega), (by omega), ⟨(by first | omega | rfl | assumption | fail), (by first | omega | rfl | assumption | fail), (by first | omega | rfl | assumption | fail), (by first | omega | rfl | assumption | fail), (by first | assumption | fail | omega), (by first | omega | rfl | assumption | fail)⟩⟩⟩ rfl rfl hl.1 rfl (lv_room (Nat.le_of_ble_eq_true rfl)) dX11_beginAnswer_54 ⟨by rw [hRc]; omega, by rw [hRs]; omega⟩) hh_56.1 (fun q _ h => h) (fun q h => h) (fun u_57 t_57 H_57 locs_57 ht_57 hvm_57 hr_58 hb_57 hz_57 hk_57 hS_57 => ?_)
    obtain ⟨qc_57, qa_57, m_qa_57, G_57⟩ := u_57
    rw [ht_57] at hb_57
    simp only at hb_57
    obtain ⟨⟨hb_571, hb_572, hb_573, hb_574, hb_575, hb_576⟩, hgq_57_0, hN_57, hbO_57⟩ := hb_57
    have hy_59 := hh_56.iv 0 rfl
    have hh_57 : jSt (dC, dI) B base G0 G_57 EX11_beginAnswer s.heap (((m_qa_45 - n_pa) / 16) + ((m_qa_57 - m_qa_45) / 16)) ((2 * (m_qa_45 - n_pa)) + (2 * (m_qa_57 - m_qa_45))) [(bo, 2, 1, .int qc_57), (bo, 2, 0, .ref qa_57), (r1, 10, 0, .ref id_21), (r0, 13, 4, .ref bo)] [] [] H_57 locs_57 := (hh_56.callG hb_571 hb_572 hb_573 hb_574 hb_575 hS_57 rfl (L1 := [(r1, 10, 0, .ref id_21), (r0, 13, 4, .ref bo)]) [2, 3] rfl rfl (M1 := []) [] rfl rfl (I1 := []) [] rfl rfl).more hb_576
    have hNn_57 : (jNk [0, 1, 2, 3, 4, 5, 6, 7, 8, 9, 10, 11, 12, 13, 14, 15, 16, 17, 175]) G0 G_57 := (hNn_45).tr hN_57
    have hg_60 := hb_572 _ _ hg_48
    have hg_61 := hb_572 _ _ hg_49
    have hg_62 := hb_572 _ _ hg_50
    have hg_63 := hb_572 _ _ hg_51
    have hd_64 := jOl.trO (hh_56.iv 1 rfl) hh_56.2.2.2.2.1 hbO_57 (by simp)
    have hh_65 := hh_57.addI (jOl.ie (dC := dC) (dI := dI) (G0 := G0) (k := 2) (rs := [bo]) (H0 := s.heap) (F := [(2, 0), (2, 1)]) (C := RX0) (T := TX0) (N := 2) rfl (by decide) hh_57.2.2.2.2.1 (hd_64))
    clear hh_57
    have hyp_57 : qc_57.toInt ≤ (m_qa_57 : Nat) ∧ m_qa_57 ≤ 1048576 := by (try simp only at hr_58); omega
    have hy_66 := jYb.own hy_59 hbO_57 hb_572 hN_57 (by decide) (fun _ => ⟨_, _, _, hh_65.at 0 rfl, hh_65.at 1 rfl, hgq_57_0, hyp_57⟩)
    have hh_67 := hh_65.addI (jYb.ie hy_66)
    clear hh_65
    try simp only at hr_58
    obtain ⟨hr_58_0, hr_58_1, hr_58_2, hr_58_3, hr_58_4⟩ := hr_58
    have hh_68 := hh_67.wk (zc1 := (m_qa_57 - n_pa) / 16) (zs1 := 2 * (m_qa_57 - n_pa)) (by omega) (by omega)
    clear hh_67
    try clear hsz_57 htt_57 hrc_57 hrs_57
    try clear hb_574 hb_575
    have hsz_69 := hh_68.2.2.2.2.2.1
    have htt_69 := hh_68.2.2.2.2.2.2.1
    refine W.room (fun hrc_69 hrs_69 => ?_)
    refine W.widen (k := LC - s.heap.size) (n := LS - jTot s.heap) (by omega) (by omega) ?_
    rw [hQ]
    exact W.vret hx hb hr (fun t ht hW => ⟨⟨(qc_57, qa_57, m_qa_57, G_57), rfl, by (try dsimp only); exact ⟨(by first | omega | rfl | assumption | fail), (by first | omega | rfl | assumption | fail), (by first | omega | rfl | assumption | fail), (by first | omega | rfl | assumption | fail), (by first | assumption | fail | omega)⟩, ⟨hh_68.ra (by first | omega | (simp only; omega)) (by first | omega | (simp only; omega)) (M1 := [(bo, 2, 1, .int qc_57), (bo, 2, 0, .ref qa_57)]) [0, 1] rfl ht, hgq_57_0, hNn_57, by rw [ht]; exact hh_68.iv 1 rfl, by rw [ht]; exact hh_68.2.2.2.2.2.2.2.2.sub (L1 := [(jFy, jYb dC dI G_57)]) [0] rfl⟩⟩, by rw [ht]; try exact hh_68.1.1, fun q h9 hq => by rw [ht]; try exact hh_68.1.2.1 q h9 hq⟩) hh_68.1.2.2 dX11_beginAnswer_57
set_option maxHeartbeats 4000000 in
set_option maxRecDepth 20000 in
theorem uX11_position (l : Launch) (dC : Nat → ClassId) (dI : Nat → Nat → Nat) (ca : Nat → ClassId) (base : Nat) (B : jF) (hB : jBok B) (hAp : jAp (dC, dI)) (hB2 : ∀ n G a H, B 2 n G a H ↔ jOb (dC, dI) 2 2 (F2 n G) a H) (hB3 : ∀ n G a H, B 3 n G a H ↔ jOb (dC, dI) 3 17 (F3 n G) a H) (hB13 : ∀ n G a H, B 13 n G a H ↔ jOb (dC, dI) 13 19 (F13 n G) a H) (hB173 : ∀ n G a H, B 173 n G a H ↔ jAr (dC, dI) (ca 1) (fun j z => True) n a H) (hB196 : ∀ n G a H, B 196 n G a H ↔ jAr (dC, dI) (ca 0) (fun j z => jBf j z) n a H) (G0 : jT) (H0 : Heap) (r0 : Nat) (r1 : Nat) (a2 : Int32) (bo : Nat) (pc : Int32) (pa : Nat) (n_pa : Nat) (LC LS : Nat) : Met l yX11_position (jw yX11_position cX11_position 3 none) ({ frames := 5, cells := LC - H0.size, slots := LS - jTot H0, locals := 163 }) (va_Pc [.ref r0, .ref r1, .int a2] (fun U => U.heap = H0 ∧ jX B base G0 [] H0 ∧ jG dC dI ca base U ∧ G0 r1 = some (3, 0) ∧ G0 r0 = some (13, 0) ∧ G0 bo = some (2, 0) ∧ G0 pa = some (196, n_pa) ∧ jP (dC, dI) G0 H0 [(r0, 13, 4, .ref bo), (bo, 2, 1, .int pc), (bo, 2, 0, .ref pa)] ∧ jIs (dC, dI) G0 H0 [(jFy, jYb dC dI G0)] ∧ H0.size + (1048576 - n_pa) / 16 + 1 ≤ LC ∧ jTot H0 + 2 * (1048576 - n_pa) ≤ LS ∧ 0 ≤ pc.toInt ∧ pc.toInt ≤ n_pa ∧ 16 ≤ n_pa ∧ n_pa ≤ 1048576 ∧ jPw n_pa)) (va_Qv (S := Int32 × Nat × Nat × jT) (fun u => 0 ≤ u.1.toInt ∧ u.1.toInt ≤ u.2.2.1 ∧ n_pa ≤ u.2.2.1 ∧ u.2.2.1 ≤ 1048576 ∧ jPw u.2.2.1) (fun u t => jRa (dC, dI) B base G0 u.2.2.2 EX11_position H0 ((u.2.2.1 - n_pa) / 16) (2 * (u.2.2.1 - n_pa)) [(bo, 2, 1, .int u.1), (bo, 2, 0, .ref u.2.1)] t.heap ∧ u.2.2.2 u.2.1 = some (196, u.2.2.1) ∧ (jNk [0, 1, 2, 3, 4, 5, 6, 7, 8, 9, 10, 11, 12, 13, 14, 15, 16, 17, 175]) G0 u.2.2.2 ∧ jOl (dC, dI) G0 2 [bo] H0 t.heap ∧ jIs (dC, dI) u.2.2.2 t.heap [(jFy, jYb dC dI u.2.2.2)]) (jA base)) (LC - H0.size) (LS - jTot H0) (jA base) := by
  refine Met.ofW (cc := cX11_position) (maxL := 3) (ret := none) (by decide) rfl ?_
  intro p e s m args below meth c s₁ Bd hml hv
  obtain ⟨rfl, hH0, hX, hG, hg_r1, hg_r0, hg_bo, hg_pa, hP0, hI0, hLC0, hLS0, hp0, hp1, hp2, hp3, hp4⟩ := hv
  have hK := hG.1
  have hx := Bd.exec
  have hb := Bd.bytes
  have hr := Bd.returns
  have hts := atoms_spec (ws := (jw yX11_position cX11_position 3 none)) Bd.pre
  have htw : ∀ w ∈ jWl, w.before _ s = true := fun w h => hts w (List.mem_cons_of_mem _ h)
  have hown : s.vm.findClass RX11 = some m.cls := findClass_of_methodNamed Bd.named
  have hlocks := Bd.notSynchronized
  obtain ⟨Q, hQ⟩ : ∃ Q, Q = MQ below (va_Qv (S := Int32 × Nat × Nat × jT) (fun u => 0 ≤ u.1.toInt ∧ u.1.toInt ≤ u.2.2.1 ∧ n_pa ≤ u.2.2.1 ∧ u.2.2.1 ≤ 1048576 ∧ jPw u.2.2.1) (fun u t => jRa (dC, dI) B base G0 u.2.2.2 EX11_position H0 ((u.2.2.1 - n_pa) / 16) (2 * (u.2.2.1 - n_pa)) [(bo, 2, 1, .int u.1), (bo, 2, 0, .ref u.2.1)] t.heap ∧ u.2.2.2 u.2.1 = some (196, u.2.2.1) ∧ (jNk [0, 1, 2, 3, 4, 5, 6, 7, 8, 9, 10, 11, 12, 13, 14, 15, 16, 17, 175]) G0 u.2.2.2 ∧ jOl (dC, dI) G0 2 [bo] H0 t.heap ∧ jIs (dC, dI) u.2.2.2 t.heap [(jFy, jYb dC dI u.2.2.2)]) (jA base)) ([.ref r0, .ref r1, .int a2] : List Value).toArray s (LC - H0.size) (LS - jTot H0) (jA base) := ⟨_, rfl⟩
  rw [← hQ]
  have hl := lv_entry ([.ref r0, .ref r1, .int a2]) (n := 3) (Nat.le_of_ble_eq_true rfl)
  rw [lg_entry_eq]
  generalize (lg_sl ([.ref r0, .ref r1, .int a2]) ++ List.replicate (3 - (lg_sl ([.ref r0, .ref r1, .int a2])).length) Slot.unset).toArray = ls at hl ⊢
  have hl : lv_has ls 3 [(0, .ref r0), (1, .ref r1), (2, .int a2)] := hl
  generalize hR : (headSpec (jw yX11_position cX11_position 3 none) ({ frames := 5, cells := LC - H0.size, slots := LS - jTot H0, locals := 163 })).room = R
  subst hH0
  have hh : jSt (dC, dI) B base G0 G0 EX11_position s.heap 0 0 [(r0, 13, 4, .ref bo), (bo, 2, 1, .int pc), (bo, 2, 0, .ref pa)] [] [(jFy, jYb dC dI G0)] s.heap [] := jSt.start hX hP0 jMc.nil hI0
  clear hX hP0
  have hk0 : (0 : Int32).toInt = 0 := by decide
  have hk1 : (1 : Int32).toInt = 1 := by decide
  have hk125 : (125 : Int32).toInt = 125 := by decide
  have hly_3_14 := htw (u_lay RX1 TX1 14) (jWc_wsX10 _ (u_in_lay (by decide)))
  have hly_3_15 := htw (u_lay RX1 TX1 15) (jWc_wsX10 _ (u_in_lay (by decide)))
  have hly_13_4 := htw (u_lay RX11 TX11 4) (jWc_wsX110 _ (u_in_lay (by decide)))
  have hlk_35 := (htw (.fieldLink RX11 35 "ProofServer" "body" "LProofServer$Bytes;") (jWr_2 _ (List.mem_of_getElem? (i := 1) rfl)))
  obtain ⟨str534, rstr534, hstr5340⟩ := hG.str (o := RX11) (k := 534) (tx := "{\"line\":") (List.mem_of_getElem? (i := 1233) (by decide +kernel))
  have hstr534 : jStr base str534 8 s s.heap := hstr5340
  have hlk_536 := (htw (.fieldLink RX11 536 "ProofServer$Document" "line" "I") (jWr_40 _ (List.mem_of_getElem? (i := 19) rfl)))
  obtain ⟨str538, rstr538, hstr5380⟩ := hG.str (o := RX11) (k := 538) (tx := ",\"character\":") (List.mem_of_getElem? (i := 1234) (by decide +kernel))
  have hstr538 : jStr base str538 13 s s.heap := hstr5380
  have hlk_540 := (htw (.fieldLink RX11 540 "ProofServer$Document" "lineStart" "I") (jWr_40 _ (List.mem_of_getElem? (i := 20) rfl)))
  have hrg_a2 := jb_rng a2
  have hbs : base ≤ s.heap.size := Nat.le_of_lt (Nat.lt_of_le_of_lt (hh.ab hg_r0).1 (hh.ab hg_r0).2)
  have hRc : R.cells = LC - s.heap.size := by rw [← hR]; rfl
  have hRs : R.slots = LS - jTot s.heap := by rw [← hR]; rfl
  have hh_1 := hh.addI (jOl.ie (dC := dC) (dI := dI) (G0 := G0) (k := 2) (rs := [bo]) (H0 := s.heap) (F := [(2, 0), (2, 1)]) (C := RX0) (T := TX0) (N := 2) rfl (by decide) hh.2.2.2.2.1 (jOl.rf))
  clear hh
  refine lv_aload_n hx hb dX11_position_0 rfl (lv_at hl 1 rfl) ?_
  refine lv_iload_n hx hb dX11_position_1 rfl (lv_at hl 2 rfl) ?_
  have hsz_2 := hh_1.2.2.2.2.2.1
  have htt_2 := hh_1.2.2.2.2.2.2.1
  refine W.room (fun hrc_2 hrs_2 => ?_)
  refine va_callv (A0 := jA base) (H0 := s.heap) (va_runV (As := [.int a2]) (rest := []) ⟨hx, hb, hml, hown, hts⟩ (uX1_seek l dC dI ca base B hB hAp hB3 hB173 G0 s.heap r1 a2 0) (cwV 1 hts (jgV (jWr_40 _ (List.mem_of_getElem? (i := 21) rfl)) (jWr_40 _ (List.mem_of_getElem? (i := 22) rfl)) (jWr_40 _ (List.mem_of_getElem? (i := 23) rfl)) (jWr_2 _ (List.mem_of_getElem? (i := 21) rfl)) (jWr_41 _ (List.mem_of_getElem? (i := 0) rfl))) rfl rfl rfl (by decide +kernel) ⟨by rw [← hR]; exact Nat.le_of_ble_eq_true rfl, by rw [← hR]; exact Nat.le_of_ble_eq_true rfl⟩) ⟨fun a U g mk q => by obtain ⟨q0, q1, q2, qK, q10, q11, q12⟩ := q; exact ⟨q0, q1, q2, jG.calling g mk a qK, q10, q11, q12⟩, hh_1.recv (C := RX1) (T := TX1) (N := 17) hB3 rfl (by decide) hg_r1 hK, fun U hU hW => ⟨rfl, hU, hh_1.2.1, hG.step hW hU hh_1.1, hg_r1, jP.nil, trivial⟩⟩ rfl rfl hl.1 rfl (lv_room (Nat.le_of_ble_eq_true rfl)) dX11_position_2 ⟨by rw [hRc]; show _ + 0 ≤ _; omega, by rw [hRs]; show _ + 0 ≤ _; omega⟩) hh_1.1 (fun q _ h => h) (fun q h => h) (fun u_2 t_2 H_2 locs_2 ht_2 hvm_2 hr_3 hb_2 hz_2 hk_2 hS_2 => ?_)
  rw [ht_2] at hb_2
  obtain ⟨hb_21, hb_22, hb_23, hb_24, hb_25⟩ := hb_2
  have hh_2 : jSt (dC, dI) B base G0 G0 EX11_position s.heap 0 0 [(r0, 13, 4, .ref bo), (bo, 2, 1, .int pc), (bo, 2, 0, .ref pa)] [] [([(2, 0), (2, 1)], jOl (dC, dI) G0 2 [bo] s.heap), (jFy, jYb dC dI G0)] H_2 locs_2 := ((hh_1.call hb_21 hb_22 hb_23 hb_24 hS_2 rfl (L1 := [(r0, 13, 4, .ref bo), (bo, 2, 1, .int pc), (bo, 2, 0, .ref pa)]) [0, 1, 2] rfl rfl (M1 := []) [] rfl rfl (I1 := [([(2, 0), (2, 1)], jOl (dC, dI) G0 2 [bo] s.heap), (jFy, jYb dC dI G0)]) [0, 1] rfl rfl).more hb_25)
  clear hh_1 ht_2 hvm_2 hz_2 hk_2 hS_2 hb_21 hb_22 hb_23 hb_24 hb_25
  refine lv_aload_n hx hb dX11_position_5 rfl (lv_at hl 0 rfl) ?_
  refine j7_read hx hb hown hK (C := RX11) (T := TX11) (N := 19) rfl hly_13_4 hlk_35 (hh_2.at 0 rfl) dX11_position_6 ?_
  refine j_ldcSw hx hb hown rstr534 dX11_position_9 ?_
  have hsz_4 := hh_2.2.2.2.2.2.1
  have htt_4 := hh_2.2.2.2.2.2.2.1
  refine W.room (fun hrc_4 hrs_4 => ?_)
  refine va_callv (A0 := jA base) (H0 := s.heap) (va_runV (As := [.ref str534]) (rest := []) ⟨hx, hb, hml, hown, hts⟩ (uX0_text l dC dI ca base B hB hAp hB2 hB196 G0 H_2 bo str534 8 pc pa n_pa LC LS) (cwV 1 hts (jgV (jWr_26 _ (List.mem_of_getElem? (i := 11) rfl)) (jWr_25 _ (List.mem_of_getElem? (i := 22) rfl)) (jWr_25 _ (List.mem_of_getElem? (i := 23) rfl)) (jWr_1 _ (List.mem_of_getElem? (i := 14) rfl)) (jWr_26 _ (List.mem_of_getElem? (i := 0) rfl))) rfl rfl rfl (by decide +kernel) ⟨by rw [← hR]; exact Nat.le_of_ble_eq_true rfl, by rw [← hR]; exact Nat.le_of_ble_eq_true rfl⟩) ⟨fun a U g mk q => by obtain ⟨q0, q1, q2, qK, q10, q11, q12, q13, q14⟩ := q; exact ⟨q0, q1, q2, jG.calling g mk a qK, (q10.moved (Vm.Alike.refl U.vm)), q11, q12, q13, q14⟩, hh_2.recv (C := RX0) (T := TX0) (N := 2) hB2 rfl (by decide) hg_bo hK, fun U hU hW => ⟨rfl, hU, hh_2.2.1, hG.step hW hU hh_2.1, (hstr534.moved hW.alike).kept hh_2.1.2.1, hg_bo, hg_pa, (hh_2.2.2.1.sub (L1 := [(bo, 2, 1, .int pc), (bo, 2, 0, .ref pa)]) [1, 2] rfl), (by omega), (by omega), ⟨(by first | omega | rfl | assumption | fail), (by first | omega | rfl | assumption | fail), (by first | omega | rfl | assumption | fail), (by first | omega | rfl | assumption | fail), (by first | assumption | fail | omega), (by first | omega | rfl | assumption | fail)⟩⟩⟩ rfl rfl hl.1 rfl (lv_room (Nat.le_of_ble_eq_true rfl)) dX11_position_12 ⟨by rw [hRc]; omega, by rw [hRs]; omega⟩) hh_2.1 (fun q _ h => h) (fun q h => h) (fun u_4 t_4 H_4 locs_4 ht_4 hvm_4 hr_5 hb_4 hz_4 hk_4 hS_4 => ?_)
  obtain ⟨qc_4, qa_4, m_qa_4, G_4⟩ := u_4
  rw [ht_4] at hb_4
  simp only at hb_4
  obtain ⟨⟨hb_41, hb_42, hb_43, hb_44, hb_45, hb_46⟩, hgq_4_0, hN_4, hbO_4⟩ := hb_4
  have hy_6 := hh_2.iv 1 rfl
  have hh_4 : jSt (dC, dI) B base G0 G_4 EX11_position s.heap (0 + ((m_qa_4 - n_pa) / 16)) (0 + (2 * (m_qa_4 - n_pa))) [(bo, 2, 1, .int qc_4), (bo, 2, 0, .ref qa_4), (r0, 13, 4, .ref bo)] [] [] H_4 locs_4 := (hh_2.callG hb_41 hb_42 hb_43 hb_44 hb_45 hS_4 rfl (L1 := [(r0, 13, 4, .ref bo)]) [0] rfl rfl (M1 := []) [] rfl rfl (I1 := []) [] rfl rfl).more hb_46
  have hNn_4 : (jNk [0, 1, 2, 3, 4, 5, 6, 7, 8, 9, 10, 11, 12, 13, 14, 15, 16, 17, 175]) G0 G_4 := (jNk.rf).tr hN_4
  have hg_7 := hb_42 _ _ hg_r0
  have hg_8 := hb_42 _ _ hg_r1
  have hg_9 := hb_42 _ _ hg_bo
  have hd_10 := jOl.trO (hh_2.iv 0 rfl) hh_2.2.2.2.2.1 hbO_4 (by simp)
  have hh_11 := hh_4.addI (jOl.ie (dC := dC) (dI := dI) (G0 := G0) (k := 2) (rs := [bo]) (H0 := s.heap) (F := [(2, 0), (2, 1)]) (C := RX0) (T := TX0) (N := 2) rfl (by decide) hh_4.2.2.2.2.1 (hd_10))
  clear hh_4
  have hyp_4 : qc_4.toInt ≤ (m_qa_4 : Nat) ∧ m_qa_4 ≤ 1048576 := by (try simp only at hr_5); omega
  have hy_12 := jYb.own hy_6 hbO_4 hb_42 hN_4 (by decide) (fun _ => ⟨_, _, _, hh_11.at 0 rfl, hh_11.at 1 rfl, hgq_4_0, hyp_4⟩)
  have hh_13 := hh_11.addI (jYb.ie hy_12)
  clear hh_11
  try simp only at hr_5
  obtain ⟨hr_5_0, hr_5_1, hr_5_2, hr_5_3, hr_5_4⟩ := hr_5
  have hh_14 := hh_13.wk (zc1 := (m_qa_4 - n_pa) / 16) (zs1 := 2 * (m_qa_4 - n_pa)) (by omega) (by omega)
  clear hh_13
  try clear hsz_4 htt_4 hrc_4 hrs_4
  try clear hb_44 hb_45
  refine lv_aload_n hx hb dX11_position_15 rfl (lv_at hl 0 rfl) ?_
  refine j7_read hx hb hown hK (C := RX11) (T := TX11) (N := 19) rfl hly_13_4 hlk_35 (hh_14.at 2 rfl) dX11_position_16 ?_
  refine lv_aload_n hx hb dX11_position_19 rfl (lv_at hl 1 rfl) ?_
  obtain ⟨v_15, hv_15, hh_16⟩ := hh_14.pin (C := RX1) (T := TX1) (N := 17) hB3 rfl (by decide) hg_8 (i := 14) (by decide) rfl
  clear hh_14
  obtain ⟨line_17, rfl⟩ := hv_15
  refine j7_read hx hb hown hK (C := RX1) (T := TX1) (N := 17) rfl hly_3_14 hlk_536 (hh_16.at 0 rfl) dX11_position_20 ?_
  have hsz_18 := hh_16.2.2.2.2.2.1
  have htt_18 := hh_16.2.2.2.2.2.2.1
  refine W.room (fun hrc_18 hrs_18 => ?_)
  refine va_callv (A0 := jA base) (H0 := s.heap) (va_runV (As := [.int line_17]) (rest := []) ⟨hx, hb, hml, hown, hts⟩ (uX0_number l dC dI ca base B hB hAp hB2 hB196 G_4 H_4 bo line_17 qc_4 qa_4 m_qa_4 LC LS) (cwV 1 hts (jgV (jWr_26 _ (List.mem_of_getElem? (i := 16) rfl)) (jWr_24 _ (List.mem_of_getElem? (i := 16) rfl)) (jWr_24 _ (List.mem_of_getElem? (i := 17) rfl)) (jWr_1 _ (List.mem_of_getElem? (i := 14) rfl)) (jWr_24 _ (List.mem_of_getElem? (i := 18) rfl))) rfl rfl rfl (by decide +kernel) ⟨by rw [← hR]; exact Nat.le_of_ble_eq_true rfl, by rw [← hR]; exact Nat.le_of_ble_eq_true rfl⟩) ⟨fun a U g mk q => by obtain ⟨q0, q1, q2, qK, q10, q11, q12, q13⟩ := q; exact ⟨q0, q1, q2, jG.calling g mk a qK, q10, q11, q12, q13⟩, hh_16.recv (C := RX0) (T := TX0) (N := 2) hB2 rfl (by decide) hg_9 hK, fun U hU hW => ⟨rfl, hU, hh_16.2.1, hG.step hW hU hh_16.1, hg_9, hgq_4_0, (hh_16.2.2.1.sub (L1 := [(bo, 2, 1, .int qc_4), (bo, 2, 0, .ref qa_4)]) [1, 2] rfl), (by omega), (by omega), ⟨(by first | omega | rfl | assumption | fail), (by first | omega | rfl | assumption | fail), (by first | omega | rfl | assumption | fail), (by first | omega | rfl | assumption | fail), (by first | assumption | fail | omega)⟩⟩⟩ rfl rfl hl.1 rfl (lv_room (Nat.le_of_ble_eq_true rfl)) dX11_position_23 ⟨by rw [hRc]; omega, by rw [hRs]; omega⟩) hh_16.1 (fun q _ h => h) (fun q h => h) (fun u_18 t_18 H_18 locs_18 ht_18 hvm_18 hr_19 hb_18 hz_18 hk_18 hS_18 => ?_)
  obtain ⟨qc_18, qa_18, m_qa_18, G_18⟩ := u_18
  rw [ht_18] at hb_18
  simp only at hb_18
  obtain ⟨⟨hb_181, hb_182, hb_183, hb_184, hb_185, hb_186⟩, hgq_18_0, hN_18, hbO_18⟩ := hb_18
  have hy_20 := hh_16.iv 0 rfl
  have hh_18 : jSt (dC, dI) B base G0 G_18 EX11_position s.heap (((m_qa_4 - n_pa) / 16) + ((m_qa_18 - m_qa_4) / 16)) ((2 * (m_qa_4 - n_pa)) + (2 * (m_qa_18 - m_qa_4))) [(bo, 2, 1, .int qc_18), (bo, 2, 0, .ref qa_18), (r1, 3, 14, .int line_17), (r0, 13, 4, .ref bo)] [] [] H_18 locs_18 := (hh_16.callG hb_181 hb_182 hb_183 hb_184 hb_185 hS_18 rfl (L1 := [(r1, 3, 14, .int line_17), (r0, 13, 4, .ref bo)]) [0, 3] rfl rfl (M1 := []) [] rfl rfl (I1 := []) [] rfl rfl).more hb_186
  have hNn_18 : (jNk [0, 1, 2, 3, 4, 5, 6, 7, 8, 9, 10, 11, 12, 13, 14, 15, 16, 17, 175]) G0 G_18 := (hNn_4).tr hN_18
  have hg_21 := hb_182 _ _ hg_7
  have hg_22 := hb_182 _ _ hg_8
  have hg_23 := hb_182 _ _ hg_9
  have hd_24 := jOl.trO (hh_16.iv 1 rfl) hh_16.2.2.2.2.1 hbO_18 (by simp)
  have hh_25 := hh_18.addI (jOl.ie (dC := dC) (dI := dI) (G0 := G0) (k := 2) (rs := [bo]) (H0 := s.heap) (F := [(2, 0), (2, 1)]) (C := RX0) (T := TX0) (N := 2) rfl (by decide) hh_18.2.2.2.2.1 (hd_24))
  clear hh_18
  have hyp_18 : qc_18.toInt ≤ (m_qa_18 : Nat) ∧ m_qa_18 ≤ 1048576 := by (try simp only at hr_19); omega
  have hy_26 := jYb.own hy_20 hbO_18 hb_182 hN_18 (by decide) (fun _ => ⟨_, _, _, hh_25.at 0 rfl, hh_25.at 1 rfl, hgq_18_0, hyp_18⟩)
  have hh_27 := hh_25.addI (jYb.ie hy_26)
  clear hh_25
  try simp only at hr_19
  obtain ⟨hr_19_0, hr_19_1, hr_19_2, hr_19_3, hr_19_4⟩ := hr_19
  have hh_28 := hh_27.wk (zc1 := (m_qa_18 - n_pa) / 16) (zs1 := 2 * (m_qa_18 - n_pa)) (by omega) (by omega)
  clear hh_27
  try clear hsz_18 htt_18 hrc_18 hrs_18
  try clear hb_184 hb_185
  refine lv_aload_n hx hb dX11_position_26 rfl (lv_at hl 0 rfl) ?_
  refine j7_read hx hb hown hK (C := RX11) (T := TX11) (N := 19) rfl hly_13_4 hlk_35 (hh_28.at 3 rfl) dX11_position_27 ?_
  refine j_ldcSw hx hb hown rstr538 dX11_position_30 ?_
  have hsz_29 := hh_28.2.2.2.2.2.1
  have htt_29 := hh_28.2.2.2.2.2.2.1
  refine W.room (fun hrc_29 hrs_29 => ?_)
  refine va_callv (A0 := jA base) (H0 := s.heap) (va_runV (As := [.ref str538]) (rest := []) ⟨hx, hb, hml, hown, hts⟩ (uX0_text l dC dI ca base B hB hAp hB2 hB196 G_18 H_18 bo str538 13 qc_18 qa_18 m_qa_18 LC LS) (cwV 1 hts (jgV (jWr_26 _ (List.mem_of_getElem? (i := 11) rfl)) (jWr_25 _ (List.mem_of_getElem? (i := 22) rfl)) (jWr_25 _ (List.mem_of_getElem? (i := 23) rfl)) (jWr_1 _ (List.mem_of_getElem? (i := 14) rfl)) (jWr_26 _ (List.mem_of_getElem? (i := 0) rfl))) rfl rfl rfl (by decide +kernel) ⟨by rw [← hR]; exact Nat.le_of_ble_eq_true rfl, by rw [← hR]; exact Nat.le_of_ble_eq_true rfl⟩) ⟨fun a U g mk q => by obtain ⟨q0, q1, q2, qK, q10, q11, q12, q13, q14⟩ := q; exact ⟨q0, q1, q2, jG.calling g mk a qK, (q10.moved (Vm.Alike.refl U.vm)), q11, q12, q13, q14⟩, hh_28.recv (C := RX0) (T := TX0) (N := 2) hB2 rfl (by decide) hg_23 hK, fun U hU hW => ⟨rfl, hU, hh_28.2.1, hG.step hW hU hh_28.1, (hstr538.moved hW.alike).kept hh_28.1.2.1, hg_23, hgq_18_0, (hh_28.2.2.1.sub (L1 := [(bo, 2, 1, .int qc_18), (bo, 2, 0, .ref qa_18)]) [0, 1] rfl), (by omega), (by omega), ⟨(by first | omega | rfl | assumption | fail), (by first | omega | rfl | assumption | fail), (by first | omega | rfl | assumption | fail), (by first | omega | rfl | assumption | fail), (by first | assumption | fail | omega), (by first | omega | rfl | assumption | fail)⟩⟩⟩ rfl rfl hl.1 rfl (lv_room (Nat.le_of_ble_eq_true rfl)) dX11_position_33 ⟨by rw [hRc]; omega, by rw [hRs]; omega⟩) hh_28.1 (fun q _ h => h) (fun q h => h) (fun u_29 t_29 H_29 locs_29 ht_29 hvm_29 hr_30 hb_29 hz_29 hk_29 hS_29 => ?_)
  obtain ⟨qc_29, qa_29, m_qa_29, G_29⟩ := u_29
  rw [ht_29] at hb_29
  simp only at hb_29
  obtain ⟨⟨hb_291, hb_292, hb_293, hb_294, hb_295, hb_296⟩, hgq_29_0, hN_29, hbO_29⟩ := hb_29
  have hy_31 := hh_28.iv 0 rfl
  have hh_29 : jSt (dC, dI) B base G0 G_29 EX11_position s.heap (((m_qa_18 - n_pa) / 16) + ((m_qa_29 - m_qa_18) / 16)) ((2 * (m_qa_18 - n_pa)) + (2 * (m_qa_29 - m_qa_18))) [(bo, 2, 1, .int qc_29), (bo, 2, 0, .ref qa_29), (r1, 3, 14, .int line_17), (r0, 13, 4, .ref bo)] [] [] H_29 locs_29 := (hh_28.callG hb_291 hb_292 hb_293 hb_294 hb_295 hS_29 rfl (L1 := [(r1, 3, 14, .int line_17), (r0, 13, 4, .ref bo)]) [2, 3] rfl rfl (M1 := []) [] rfl rfl (I1 := []) [] rfl rfl).more hb_296
  have hNn_29 : (jNk [0, 1, 2, 3, 4, 5, 6, 7, 8, 9, 10, 11, 12, 13, 14, 15, 16, 17, 175]) G0 G_29 := (hNn_18).tr hN_29
  have hg_32 := hb_292 _ _ hg_21
  have hg_33 := hb_292 _ _ hg_22
  have hg_34 := hb_292 _ _ hg_23
  have hd_35 := jOl.trO (hh_28.iv 1 rfl) hh_28.2.2.2.2.1 hbO_29 (by simp)
  have hh_36 := hh_29.addI (jOl.ie (dC := dC) (dI := dI) (G0 := G0) (k := 2) (rs := [bo]) (H0 := s.heap) (F := [(2, 0), (2, 1)]) (C := RX0) (T := TX0) (N := 2) rfl (by decide) hh_29.2.2.2.2.1 (hd_35))
  clear hh_29
  have hyp_29 : qc_29.toInt ≤ (m_qa_29 : Nat) ∧ m_qa_29 ≤ 1048576 := by (try simp only at hr_30); omega
  have hy_37 := jYb.own hy_31 hbO_29 hb_292 hN_29 (by decide) (fun _ => ⟨_, _, _, hh_36.at 0 rfl, hh_36.at 1 rfl, hgq_29_0, hyp_29⟩)
  have hh_38 := hh_36.addI (jYb.ie hy_37)
  clear hh_36
  try simp only at hr_30
  obtain ⟨hr_30_0, hr_30_1, hr_30_2, hr_30_3, hr_30_4⟩ := hr_30
  have hh_39 := hh_38.wk (zc1 := (m_qa_29 - n_pa) / 16) (zs1 := 2 * (m_qa_29 - n_pa)) (by omega) (by omega)
  clear hh_38
  try clear hsz_29 htt_29 hrc_29 hrs_29
  try clear hb_294 hb_295
  refine lv_aload_n hx hb dX11_position_36 rfl (lv_at hl 0 rfl) ?_
  refine j7_read hx hb hown hK (C := RX11) (T := TX11) (N := 19) rfl hly_13_4 hlk_35 (hh_39.at 3 rfl) dX11_position_37 ?_
  refine lv_iload_n hx hb dX11_position_40 rfl (lv_at hl 2 rfl) ?_
  refine lv_aload_n hx hb dX11_position_41 rfl (lv_at hl 1 rfl) ?_
  obtain ⟨v_40, hv_40, hh_41⟩ := hh_39.pin (C := RX1) (T := TX1) (N := 17) hB3 rfl (by decide) hg_33 (i := 15) (by decide) rfl
  clear hh_39
  obtain ⟨lineStart_42, rfl⟩ := hv_40
  refine j7_read hx hb hown hK (C := RX1) (T := TX1) (N := 17) rfl hly_3_15 hlk_540 (hh_41.at 0 rfl) dX11_position_42 ?_
  refine lv_isub hx hb dX11_position_45 ?_
  refine lv_topi (fun z_43 ez_43 => ?_)
  have hsz_44 := hh_41.2.2.2.2.2.1
  have htt_44 := hh_41.2.2.2.2.2.2.1
  refine W.room (fun hrc_44 hrs_44 => ?_)
  refine va_callv (A0 := jA base) (H0 := s.heap) (va_runV (As := [.int z_43]) (rest := []) ⟨hx, hb, hml, hown, hts⟩ (uX0_number l dC dI ca base B hB hAp hB2 hB196 G_29 H_29 bo z_43 qc_29 qa_29 m_qa_29 LC LS) (cwV 1 hts (jgV (jWr_26 _ (List.mem_of_getElem? (i := 16) rfl)) (jWr_24 _ (List.mem_of_getElem? (i := 16) rfl)) (jWr_24 _ (List.mem_of_getElem? (i := 17) rfl)) (jWr_1 _ (List.mem_of_getElem? (i := 14) rfl)) (jWr_24 _ (List.mem_of_getElem? (i := 18) rfl))) rfl rfl rfl (by decide +kernel) ⟨by rw [← hR]; exact Nat.le_of_ble_eq_true rfl, by rw [← hR]; exact Nat.le_of_ble_eq_true rfl⟩) ⟨fun a U g mk q => by obtain ⟨q0, q1, q2, qK, q10, q11, q12, q13⟩ := q; exact ⟨q0, q1, q2, jG.calling g mk a qK, q10, q11, q12, q13⟩, hh_41.recv (C := RX0) (T := TX0) (N := 2) hB2 rfl (by decide) hg_34 hK, fun U hU hW => ⟨rfl, hU, hh_41.2.1, hG.step hW hU hh_41.1, hg_34, hgq_29_0, (hh_41.2.2.1.sub (L1 := [(bo, 2, 1, .int qc_29), (bo, 2, 0, .ref qa_29)]) [1, 2] rfl), (by omega), (by omega), ⟨(by first | omega | rfl | assumption | fail), (by first | omega | rfl | assumption | fail), (by first | omega | rfl | assumption | fail), (by first | omega | rfl | assumption | fail), (by first | assumption | fail | omega)⟩⟩⟩ rfl rfl hl.1 rfl (lv_room (Nat.le_of_ble_eq_true rfl)) dX11_position_46 ⟨by rw [hRc]; omega, by rw [hRs]; omega⟩) hh_41.1 (fun q _ h => h) (fun q h => h) (fun u_44 t_44 H_44 locs_44 ht_44 hvm_44 hr_45 hb_44 hz_44 hk_44 hS_44 => ?_)
  obtain ⟨qc_44, qa_44, m_qa_44, G_44⟩ := u_44
  rw [ht_44] at hb_44
  simp only at hb_44
  obtain ⟨⟨hb_441, hb_442, hb_443, hb_444, hb_445, hb_446⟩, hgq_44_0, hN_44, hbO_44⟩ := hb_44
  have hy_46 := hh_41.iv 0 rfl
  have hh_44 : jSt (dC, dI) B base G0 G_44 EX11_position s.heap (((m_qa_29 - n_pa) / 16) + ((m_qa_44 - m_qa_29) / 16)) ((2 * (m_qa_29 - n_pa)) + (2 * (m_qa_44 - m_qa_29))) [(bo, 2, 1, .int qc_44), (bo, 2, 0, .ref qa_44), (r1, 3, 15, .int lineStart_42), (r1, 3, 14, .int line_17), (r0, 13, 4, .ref bo)] [] [] H_44 locs_44 := (hh_41.callG hb_441 hb_442 hb_443 hb_444 hb_445 hS_44 rfl (L1 := [(r1, 3, 15, .int lineStart_42), (r1, 3, 14, .int line_17), (r0, 13, 4, .ref bo)]) [0, 3, 4] rfl rfl (M1 := []) [] rfl rfl (I1 := []) [] rfl rfl).more hb_446
  have hNn_44 : (jNk [0, 1, 2, 3, 4, 5, 6, 7, 8, 9, 10, 11, 12, 13, 14, 15, 16, 17, 175]) G0 G_44 := (hNn_29).tr hN_44
  have hg_47 := hb_442 _ _ hg_32
  have hg_48 := hb_442 _ _ hg_33
  have hg_49 := hb_442 _ _ hg_34
  have hd_50 := jOl.trO (hh_41.iv 1 rfl) hh_41.2.2.2.2.1 hbO_44 (by simp)
  have hh_51 := hh_44.addI (jOl.ie (dC := dC) (dI := dI) (G0 := G0) (k := 2) (rs := [bo]) (H0 := s.heap) (F := [(2, 0), (2, 1)]) (C := RX0) (T := TX0) (N := 2) rfl (by decide) hh_44.2.2.2.2.1 (hd_50))
  clear hh_44
  have hyp_44 : qc_44.toInt ≤ (m_qa_44 : Nat) ∧ m_qa_44 ≤ 1048576 := by (try simp only at hr_45); omega
  have hy_52 := jYb.own hy_46 hbO_44 hb_442 hN_44 (by decide) (fun _ => ⟨_, _, _, hh_51.at 0 rfl, hh_51.at 1 rfl, hgq_44_0, hyp_44⟩)
  have hh_53 := hh_51.addI (jYb.ie hy_52)
  clear hh_51
  try simp only at hr_45
  obtain ⟨hr_45_0, hr_45_1, hr_45_2, hr_45_3, hr_45_4⟩ := hr_45
  have hh_54 := hh_53.wk (zc1 := (m_qa_44 - n_pa) / 16) (zs1 := 2 * (m_qa_44 - n_pa)) (by omega) (by omega)
  clear hh_53
  try clear hsz_44 htt_44 hrc_44 hrs_44
  try clear hb_444 hb_445
  refine lv_aload_n hx hb dX11_position_49 rfl (lv_at hl 0 rfl) ?_
  refine j7_read hx hb hown hK (C := RX11) (T := TX11) (N := 19) rfl hly_13_4 hlk_35 (hh_54.at 4 rfl) dX11_position_50 ?_
  refine lv_bipush (v := 125) hx hb dX11_position_53 (by decide) ?_
  have hsz_55 := hh_54.2.2.2.2.2.1
  have htt_55 := hh_54.2.2.2.2.2.2.1
  refine W.room (fun hrc_55 hrs_55 => ?_)
  refine va_callv (A0 := jA base) (H0 := s.heap) (va_runV (As := [.int 125]) (rest := []) ⟨hx, hb, hml, hown, hts⟩ (uX0_put l dC dI ca base B hB hAp hB2 hB196 G_44 H_44 bo 125 qc_44 qa_44 m_qa_44 LC LS) (cwV 1 hts (jgV (jWr_15 _ (List.mem_of_getElem? (i := 23) rfl)) (jWr_16 _ (List.mem_of_getElem? (i := 0) rfl)) (jWr_16 _ (List.mem_of_getElem? (i := 1) rfl)) (jWr_1 _ (List.mem_of_getElem? (i := 14) rfl)) (jWr_16 _ (List.mem_of_getElem? (i := 2) rfl))) rfl rfl rfl (by decide +kernel) ⟨by rw [← hR]; exact Nat.le_of_ble_eq_true rfl, by rw [← hR]; exact Nat.le_of_ble_eq_true rfl⟩) ⟨fun a U g mk q => by obtain ⟨q0, q1, q2, qK, q10, q11, q12, q13⟩ := q; exact ⟨q0, q1, q2, jG.calling g mk a qK, q10, q11, q12, q13⟩, hh_54.recv (C := RX0) (T := TX0) (N := 2) hB2 rfl (by decide) hg_49 hK, fun U hU hW => ⟨rfl, hU, hh_54.2.1, hG.step hW hU hh_54.1, hg_49, hgq_44_0, (hh_54.2.2.1.sub (L1 := [(bo, 2, 1, .int qc_44), (bo, 2, 0, .ref qa_44)]) [0, 1] rfl), (by omega), (by omega), ⟨(by first | omega | rfl | assumption | fail), (by first | omega | rfl | assumption | fail), (by first | omega | rfl | assumption | fail), (by first | omega | rfl | assumption | fail), (by first | assumption | fail | omega)⟩⟩⟩ rfl rfl hl.1 rfl (lv_room (Nat.le_of_ble_eq_true rfl)) dX11_position_55 ⟨by rw [hRc]; omega, by rw [hRs]; omega⟩) hh_54.1 (fun q _ h => h) (fun q h => h) (fun u_55 t_55 H_55 locs_55 ht_55 hvm_55 hr_56 hb_55 hz_55 hk_55 hS_55 => ?_)
  obtain ⟨qc_55, qa_55, m_qa_55, G_55⟩ := u_55
  rw [ht_55] at hb_55
  simp only at hb_55
  obtain ⟨⟨hb_551, hb_552, hb_553, hb_554, hb_555, hb_556⟩, hgq_55_0, hN_55, hbO_55⟩ := hb_55
  have hy_57 := hh_54.iv 0 rfl
  have hh_55 : jSt (dC, dI) B base G0 G_55 EX11_position s.heap (((m_qa_44 - n_pa) / 16) + ((m_qa_55 - m_qa_44) / 16)) ((2 * (m_qa_44 - n_pa)) + (2 * (m_qa_55 - m_qa_44))) [(bo, 2, 1, .int qc_55), (bo, 2, 0, .ref qa_55), (r1, 3, 15, .int lineStart_42), (r1, 3, 14, .int line_17), (r0, 13, 4, .ref bo)] [] [] H_55 locs_55 := (hh_54.callG hb_551 hb_552 hb_553 hb_554 hb_555 hS_55 rfl (L1 := [(r1, 3, 15, .int lineStart_42), (r1, 3, 14, .int line_17), (r0, 13, 4, .ref bo)]) [2, 3, 4] rfl rfl (M1 := []) [] rfl rfl (I1 := []) [] rfl rfl).more hb_556
  have hNn_55 : (jNk [0, 1, 2, 3, 4, 5, 6, 7, 8, 9, 10, 11, 12, 13, 14, 15, 16, 17, 175]) G0 G_55 := (hNn_44).tr hN_55
  have hg_58 := hb_552 _ _ hg_47
  have hg_59 := hb_552 _ _ hg_48
  have hg_60 := hb_552 _ _ hg_49
  have hd_61 := jOl.trO (hh_54.iv 1 rfl) hh_54.2.2.2.2.1 hbO_55 (by simp)
  have hh_62 := hh_55.addI (jOl.ie (dC := dC) (dI := dI) (G0 := G0) (k := 2) (rs := [bo]) (H0 := s.heap) (F := [(2, 0), (2, 1)]) (C := RX0) (T := TX0) (N := 2) rfl (by decide) hh_55.2.2.2.2.1 (hd_61))
  clear hh_55
  have hyp_55 : qc_55.toInt ≤ (m_qa_55 : Nat) ∧ m_qa_55 ≤ 1048576 := by (try simp only at hr_56); omega
  have hy_63 := jYb.own hy_57 hbO_55 hb_552 hN_55 (by decide) (fun _ => ⟨_, _, _, hh_62.at 0 rfl, hh_62.at 1 rfl, hgq_55_0, hyp_55⟩)
  have hh_64 := hh_62.addI (jYb.ie hy_63)
  clear hh_62
  try simp only at hr_56
  obtain ⟨hr_56_0, hr_56_1, hr_56_2, hr_56_3, hr_56_4⟩ := hr_56
  have hh_65 := hh_64.wk (zc1 := (m_qa_55 - n_pa) / 16) (zs1 := 2 * (m_qa_55 - n_pa)) (by omega) (by omega)
  clear hh_64
  try clear hsz_55 htt_55 hrc_55 hrs_55
  try clear hb_554 hb_555
  have hsz_66 := hh_65.2.2.2.2.2.1
  have htt_66 := hh_65.2.2.2.2.2.2.1
  refine W.room (fun hrc_66 hrs_66 => ?_)
  refine W.widen (k := LC - s.heap.size) (n := LS - jTot s.heap) (by omega) (by omega) ?_
  rw [hQ]
  exact W.vret hx hb hr (fun t ht hW => ⟨⟨(qc_55, qa_55, m_qa_55, G_55), rfl, by (try dsimp only); exact ⟨(by first | omega | rfl | assumption | fail), (by first | omega | rfl | assumption | fail), (by first | omega | rfl | assumption | fail), (by first | omega | rfl | assumption | fail), (by first | assumption | fail | omega)⟩, ⟨hh_65.ra (by first | omega | (simp only; omega)) (by first | omega | (simp only; omega)) (M1 := [(bo, 2, 1, .int qc_55), (bo, 2, 0, .ref qa_55)]) [0, 1] rfl ht, hgq_55_0, hNn_55, by rw [ht]; exact hh_65.iv 1 rfl, by rw [ht]; exact hh_65.2.2.2.2.2.2.2.2.sub (L1 := [(jFy, jYb dC dI G_55)]) [0] rfl⟩⟩, by rw [ht]; try exact hh_65.1.1, fun q h9 hq => by rw [ht]; try exact hh_65.1.2.1 q h9 hq⟩) hh_65.1.2.2 dX11_position_58
set_option maxHeartbeats 4000000 in
set_option maxRecDepth 20000 in
theorem uX11_diagnostic (l : Launch) (dC : Nat → ClassId) (dI : Nat → Nat → Nat) (ca : Nat → ClassId) (base : Nat) (B : jF) (hB : jBok B) (hAp : jAp (dC, dI)) (hB2 : ∀ n G a H, B 2 n G a H ↔ jOb (dC, dI) 2 2 (F2 n G) a H) (hB3 : ∀ n G a H, B 3 n G a H ↔ jOb (dC, dI) 3 17 (F3 n G) a H) (hB11 : ∀ n G a H, B 11 n G a H ↔ jOb (dC, dI) 11 9 (F11 n G) a H) (hB13 : ∀ n G a H, B 13 n G a H ↔ jOb (dC, dI) 13 19 (F13 n G) a H) (hB171 : ∀ n G a H, B 171 n G a H ↔ jAr (dC, dI) (ca 1) (fun j z => 0 ≤ z.toInt ∧ z.toInt ≤ 1500) n a H) (hB172 : ∀ n G a H, B 172 n G a H ↔ jAr (dC, dI) (ca 1) (fun j z => 0 ≤ z.toInt ∧ z.toInt ≤ 1500) n a H) (hB173 : ∀ n G a H, B 173 n G a H ↔ jAr (dC, dI) (ca 1) (fun j z => True) n a H) (hB196 : ∀ n G a H, B 196 n G a H ↔ jAr (dC, dI) (ca 0) (fun j z => jBf j z) n a H) (hB210 : ∀ n G a H, B 210 n G a H ↔ jAq (dC, dI) (ca 6) (jQn 11 0) n G a H) (G0 : jT) (H0 : Heap) (r0 : Nat) (r1 : Nat) (a2 : Int32) (bo : Nat) (pc : Int32) (pa : Nat) (n_pa : Nat) (bh : Nat) (fq : Nat → Option Nat) (LC LS : Nat) : Met l yX11_diagnostic (jw yX11_diagnostic cX11_diagnostic 3 none) ({ frames := 6, cells := LC - H0.size, slots := LS - jTot H0, locals := 185 }) (va_Pc [.ref r0, .ref r1, .int a2] (fun U => U.heap = H0 ∧ jX B base G0 [] H0 ∧ jG dC dI ca base U ∧ jK2 dC dI ca U ∧ G0 r1 = some (3, 0) ∧ G0 r0 = some (13, 0) ∧ G0 bo = some (2, 0) ∧ G0 pa = some (196, n_pa) ∧ G0 bh = some (210, 40) ∧ jP (dC, dI) G0 H0 [(r0, 13, 4, .ref bo), (bo, 2, 1, .int pc), (bo, 2, 0, .ref pa), (r1, 3, 9, .ref bh)] ∧ jIs (dC, dI) G0 H0 [(jFy, jYb dC dI G0), ([(210, 0)], jQc dC dI (ca 6) bh 40 fq)] ∧ H0.size + (1048576 - n_pa) / 16 + 1 ≤ LC ∧ jTot H0 + 2 * (1048576 - n_pa) ≤ LS ∧ 0 ≤ pc.toInt ∧ pc.toInt ≤ n_pa ∧ 16 ≤ n_pa ∧ n_pa ≤ 1048576 ∧ jPw n_pa ∧ 0 ≤ a2.toInt ∧ a2.toInt ≤ 39 ∧ fq (a2.toInt).toNat ≠ none)) (va_Qv (S := Int32 × Nat × Nat × jT) (fun u => 0 ≤ u.1.toInt ∧ u.1.toInt ≤ u.2.2.1 ∧ n_pa ≤ u.2.2.1 ∧ u.2.2.1 ≤ 1048576 ∧ jPw u.2.2.1) (fun u t => jRa (dC, dI) B base G0 u.2.2.2 EX11_diagnostic H0 ((u.2.2.1 - n_pa) / 16) (2 * (u.2.2.1 - n_pa)) [(bo, 2, 1, .int u.1), (bo, 2, 0, .ref u.2.1)] t.heap ∧ u.2.2.2 u.2.1 = some (196, u.2.2.1) ∧ (jNk [0, 1, 2, 3, 4, 5, 6, 7, 8, 9, 10, 11, 12, 13, 14, 15, 16, 17, 175]) G0 u.2.2.2 ∧ jOl (dC, dI) G0 2 [bo] H0 t.heap ∧ jIs (dC, dI) u.2.2.2 t.heap [(jFy, jYb dC dI u.2.2.2)]) (jA base)) (LC - H0.size) (LS - jTot H0) (jA base) := by
  refine Met.ofW (cc := cX11_diagnostic) (maxL := 3) (ret := none) (by decide) rfl ?_
  intro p e s m args below meth c s₁ Bd hml hv
  obtain ⟨rfl, hH0, hX, hG, hK2, hg_r1, hg_r0, hg_bo, hg_pa, hg_bh, hP0, hI0, hLC0, hLS0, hp0, hp1, hp2, hp3, hp4, hp5, hp6, hp7⟩ := hv
  have hK := hG.1
  have hx := Bd.exec
  have hb := Bd.bytes
  have hr := Bd.returns
  have hts := atoms_spec (ws := (jw yX11_diagnostic cX11_diagnostic 3 none)) Bd.pre
  have htw : ∀ w ∈ jWl, w.before _ s = true := fun w h => hts w (List.mem_cons_of_mem _ h)
  have hown : s.vm.findClass RX11 = some m.cls := findClass_of_methodNamed Bd.named
  have hlocks := Bd.notSynchronized
  obtain ⟨Q, hQ⟩ : ∃ Q, Q = MQ below (va_Qv (S := Int32 × Nat × Nat × jT) (fun u => 0 ≤ u.1.toInt ∧ u.1.toInt ≤ u.2.2.1 ∧ n_pa ≤ u.2.2.1 ∧ u.2.2.1 ≤ 1048576 ∧ jPw u.2.2.1) (fun u t => jRa (dC, dI) B base G0 u.2.2.2 EX11_diagnostic H0 ((u.2.2.1 - n_pa) / 16) (2 * (u.2.2.1 - n_pa)) [(bo, 2, 1, .int u.1), (bo, 2, 0, .ref u.2.1)] t.heap ∧ u.2.2.2 u.2.1 = some (196, u.2.2.1) ∧ (jNk [0, 1, 2, 3, 4, 5, 6, 7, 8, 9, 10, 11, 12, 13, 14, 15, 16, 17, 175]) G0 u.2.2.2 ∧ jOl (dC, dI) G0 2 [bo] H0 t.heap ∧ jIs (dC, dI) u.2.2.2 t.heap [(jFy, jYb dC dI u.2.2.2)]) (jA base)) ([.ref r0, .ref r1, .int a2] : List Value).toArray s (LC - H0.size) (LS - jTot H0) (jA base) := ⟨_, rfl⟩
  rw [← hQ]
  have hl := lv_entry ([.ref r0, .ref r1, .int a2]) (n := 3) (Nat.le_of_ble_eq_true rfl)
  rw [lg_entry_eq]
  generalize (lg_sl ([.ref r0, .ref r1, .int a2]) ++ List.replicate (3 - (lg_sl ([.ref r0, .ref r1, .int a2])).length) Slot.unset).toArray = ls at hl ⊢
  have hl : lv_has ls 3 [(0, .ref r0), (1, .ref r1), (2, .int a2)] := hl
  generalize hR : (headSpec (jw yX11_diagnostic cX11_diagnostic 3 none) ({ frames := 6, cells := LC - H0.size, slots := LS - jTot H0, locals := 185 })).room = R
  subst hH0
  have hh : jSt (dC, dI) B base G0 G0 EX11_diagnostic s.heap 0 0 [(r0, 13, 4, .ref bo), (bo, 2, 1, .int pc), (bo, 2, 0, .ref pa), (r1, 3, 9, .ref bh)] [] [(jFy, jYb dC dI G0), ([(210, 0)], jQc dC dI (ca 6) bh 40 fq)] s.heap [] := jSt.start hX hP0 jMc.nil hI0
  clear hX hP0
  have hk0 : (0 : Int32).toInt = 0 := by decide
  have hk1 : (1 : Int32).toInt = 1 := by decide
  have hly_3_5 := htw (u_lay RX1 TX1 5) (jWc_wsX10 _ (u_in_lay (by decide)))
  have hly_3_6 := htw (u_lay RX1 TX1 6) (jWc_wsX10 _ (u_in_lay (by decide)))
  have hly_3_9 := htw (u_lay RX1 TX1 9) (jWc_wsX10 _ (u_in_lay (by decide)))
  have hly_11_2 := htw (u_lay RX9 TX9 2) (jWc_wsX90 _ (u_in_lay (by decide)))
  have hly_13_4 := htw (u_lay RX11 TX11 4) (jWc_wsX110 _ (u_in_lay (by decide)))
  have hlk_35 := (htw (.fieldLink RX11 35 "ProofServer" "body" "LProofServer$Bytes;") (jWr_2 _ (List.mem_of_getElem? (i := 1) rfl)))
  obtain ⟨str518, rstr518, hstr5180⟩ := hG.str (o := RX11) (k := 518) (tx := "{\"range\":{\"start\":") (List.mem_of_getElem? (i := 1224) (by decide +kernel))
  have hstr518 : jStr base str518 18 s s.heap := hstr5180
  have hlk_182 := (htw (.fieldLink RX11 182 "ProofServer$Document" "starts" "[I") (jWr_40 _ (List.mem_of_getElem? (i := 13) rfl)))
  obtain ⟨str522, rstr522, hstr5220⟩ := hG.str (o := RX11) (k := 522) (tx := ",\"end\":") (List.mem_of_getElem? (i := 1235) (by decide +kernel))
  have hstr522 : jStr base str522 7 s s.heap := hstr5220
  have hlk_185 := (htw (.fieldLink RX11 185 "ProofServer$Document" "ends" "[I") (jWr_40 _ (List.mem_of_getElem? (i := 14) rfl)))
  obtain ⟨str524, rstr524, hstr5240⟩ := hG.str (o := RX11) (k := 524) (tx := "},\"severity\":1,\"message\":\"") (List.mem_of_getElem? (i := 1236) (by decide +kernel))
  have hstr524 : jStr base str524 26 s s.heap := hstr5240
  have hlk_178 := (htw (.fieldLink RX11 178 "ProofServer$Document" "behind" "[LProofServer$State;") (jWr_39 _ (List.mem_of_getElem? (i := 23) rfl)))
  have hlk_188 := (htw (.fieldLink RX11 188 "ProofServer$State" "fault" "I") (jWr_40 _ (List.mem_of_getElem? (i := 0) rfl)))
  obtain ⟨str529, rstr529, hstr5290⟩ := hG.str (o := RX11) (k := 529) (tx := "\"}") (List.mem_of_getElem? (i := 1249) (by decide +kernel))
  have hstr529 : jStr base str529 2 s s.heap := hstr5290
  have hrg_a2 := jb_rng a2
  have hbs : base ≤ s.heap.size := Nat.le_of_lt (Nat.lt_of_le_of_lt (hh.ab hg_r0).1 (hh.ab hg_r0).2)
  have hbs : base ≤ s.heap.size := Nat.le_of_lt (Nat.lt_of_le_of_lt (hh.ab hg_r0).1 (hh.ab hg_r0).2)
  have hRc : R.cells = LC - s.heap.size := by rw [← hR]; rfl
  have hRs : R.slots = LS - jTot s.heap := by rw [← hR]; rfl
  have hh_1 := hh.addI (jOl.ie (dC := dC) (dI := dI) (G0 := G0) (k := 2) (rs := [bo]) (H0 := s.heap) (F := [(2, 0), (2, 1)]) (C := RX0) (T := TX0) (N := 2) rfl (by decide) hh.2.2.2.2.1 (jOl.rf))
  clear hh
  refine lv_aload_n hx hb dX11_diagnostic_0 rfl (lv_at hl 0 rfl) ?_
  refine j7_read hx hb hown hK (C := RX11) (T := TX11) (N := 19) rfl hly_13_4 hlk_35 (hh_1.at 0 rfl) dX11_diagnostic_1 ?_
  refine j_ldcSw hx hb hown rstr518 dX11_diagnostic_4 ?_
  have hsz_2 := hh_1.2.2.2.2.2.1
  have htt_2 := hh_1.2.2.2.2.2.2.1
  refine W.room (fun hrc_2 hrs_2 => ?_)
  refine va_callv (A0 := jA base) (H0 := s.heap) (va_runV (As := [.ref str518]) (rest := []) ⟨hx, hb, hml, hown, hts⟩ (uX0_text l dC dI ca base B hB hAp hB2 hB196 G0 s.heap bo str518 18 pc pa n_pa LC LS) (cwV 1 hts (jgV (jWr_26 _ (List.mem_of_getElem? (i := 11) rfl)) (jWr_25 _ (List.mem_of_getElem? (i := 22) rfl)) (jWr_25 _ (List.mem_of_getElem? (i := 23) rfl)) (jWr_1 _ (List.mem_of_getElem? (i := 14) rfl)) (jWr_26 _ (List.mem_of_getElem? (i := 0) rfl))) rfl rfl rfl (by decide +kernel) ⟨by rw [← hR]; exact Nat.le_of_ble_eq_true rfl, by rw [← hR]; exact Nat.le_of_ble_eq_true rfl⟩) ⟨fun a U g mk q => by obtain ⟨q0, q1, q2, qK, q10, q11, q12, q13, q14⟩ := q; exact ⟨q0, q1, q2, jG.calling g mk a qK, (q10.moved (Vm.Alike.refl U.vm)), q11, q12, q13, q14⟩, hh_1.recv (C := RX0) (T := TX0) (N := 2) hB2 rfl (by decide) hg_bo hK, fun U hU hW => ⟨rfl, hU, hh_1.2.1, hG.step hW hU hh_1.1, (hstr518.moved hW.alike).kept hh_1.1.2.1, hg_bo, hg_pa, (hh_1.2.2.1.sub (L1 := [(bo, 2, 1, .int pc), (bo, 2, 0, .ref pa)]) [1, 2] rfl), (by omega), (by omega), ⟨(by first | omega | rfl | assumption | fail), (by first | omega | rfl | assumption | fail), (by first | omega | rfl | assumption | fail), (by first | omega | rfl | assumption | fail), (by first | assumption | fail | omega), (by first | omega | rfl | assumption | fail)⟩⟩⟩ rfl rfl hl.1 rfl (lv_room (Nat.le_of_ble_eq_true rfl)) dX11_diagnostic_7 ⟨by rw [hRc]; omega, by rw [hRs]; omega⟩) hh_1.1 (fun q _ h => h) (fun q h => h) (fun u_2 t_2 H_2 locs_2 ht_2 hvm_2 hr_3 hb_2 hz_2 hk_2 hS_2 => ?_)
  obtain ⟨qc_2, qa_2, m_qa_2, G_2⟩ := u_2
  rw [ht_2] at hb_2
  simp only at hb_2
  obtain ⟨⟨hb_21, hb_22, hb_23, hb_24, hb_25, hb_26⟩, hgq_2_0, hN_2, hbO_2⟩ := hb_2
  have hy_4 := hh_1.iv 1 rfl
  have hh_2 : jSt (dC, dI) B base G0 G_2 EX11_diagnostic s.heap (0 + ((m_qa_2 - n_pa) / 16)) (0 + (2 * (m_qa_2 - n_pa))) [(bo, 2, 1, .int qc_2), (bo, 2, 0, .ref qa_2), (r0, 13, 4, .ref bo), (r1, 3, 9, .ref bh)] [] [([(210, 0)], jQc dC dI (ca 6) bh 40 fq)] H_2 locs_2 := (hh_1.callG hb_21 hb_22 hb_23 hb_24 hb_25 hS_2 rfl (L1 := [(r0, 13, 4, .ref bo), (r1, 3, 9, .ref bh)]) [0, 3] rfl rfl (M1 := []) [] rfl rfl (I1 := [([(210, 0)], jQc dC dI (ca 6) bh 40 fq)]) [2] rfl rfl).more hb_26
  have hNn_2 : (jNk [0, 1, 2, 3, 4, 5, 6, 7, 8, 9, 10, 11, 12, 13, 14, 15, 16, 17, 175]) G0 G_2 := (jNk.rf).tr hN_2
  have hg_5 := hb_22 _ _ hg_r0
  have hg_6 := hb_22 _ _ hg_r1
  have hg_7 := hb_22 _ _ hg_bo
  have hg_8 := hb_22 _ _ hg_bh
  have hd_10 := jOl.trO (hh_1.iv 0 rfl) hh_1.2.2.2.2.1 hbO_2 (by simp)
  have hh_11 := hh_2.addI (jOl.ie (dC := dC) (dI := dI) (G0 := G0) (k := 2) (rs := [bo]) (H0 := s.heap) (F := [(2, 0), (2, 1)]) (C := RX0) (T := TX0) (N := 2) rfl (by decide) hh_2.2.2.2.2.1 (hd_10))
  clear hh_2
  have hyp_2 : qc_2.toInt ≤ (m_qa_2 : Nat) ∧ m_qa_2 ≤ 1048576 := by (try simp only at hr_3); omega
  have hy_12 := jYb.own hy_4 hbO_2 hb_22 hN_2 (by decide) (fun _ => ⟨_, _, _, hh_11.at 0 rfl, hh_11.at 1 rfl, hgq_2_0, hyp_2⟩)
  have hh_13 := hh_11.addI (jYb.ie hy_12)
  clear hh_11
  try simp only at hr_3
  obtain ⟨hr_3_0, hr_3_1, hr_3_2, hr_3_3, hr_3_4⟩ := hr_3
  have hh_14 := hh_13.wk (zc1 := (m_qa_2 - n_pa) / 16) (zs1 := 2 * (m_qa_2 - n_pa)) (by omega) (by omega)
  clear hh_13
  try clear hsz_2 htt_2 hrc_2 hrs_2
  try clear hb_24 hb_25
  refine lv_aload_n hx hb dX11_diagnostic_10 rfl (lv_at hl 0 rfl) ?_
  refine lv_aload_n hx hb dX11_diagnostic_11 rfl (lv_at hl 1 rfl) ?_
  refine lv_aload_n hx hb dX11_diagnostic_12 rfl (lv_at hl 1 rfl) ?_
  obtain ⟨v_15, hv_15, hh_16⟩ := hh_14.pin (C := RX1) (T := TX1) (N := 17) hB3 rfl (by decide) hg_6 (i := 5) (by decide) rfl
  clear hh_14
  obtain ⟨starts_17, rfl, hg_starts_17⟩ := hv_15
  refine j7_read hx hb hown hK (C := RX1) (T := TX1) (N := 17) rfl hly_3_5 hlk_182 (hh_16.at 0 rfl) dX11_diagnostic_13 ?_
  refine lv_iload_n hx hb dX11_diagnostic_16 rfl (lv_at hl 2 rfl) ?_
  refine j7_iald hx hb hK hh_16 hB171 1 rfl (by decide) hg_starts_17 (x := a2.toInt) (rfl) (by omega) dX11_diagnostic_17 (fun z_18 (hz_18 : 0 ≤ z_18.toInt ∧ z_18.toInt ≤ 1500) => ?_)
  have hsz_19 := hh_16.2.2.2.2.2.1
  have htt_19 := hh_16.2.2.2.2.2.2.1
  refine W.room (fun hrc_19 hrs_19 => ?_)
  refine va_callv (A0 := jA base) (H0 := s.heap) (va_runV (As := [.ref r1, .int z_18]) (rest := []) ⟨hx, hb, hml, hown, hts⟩ (uX11_position l dC dI ca base B hB hAp hB2 hB3 hB13 hB173 hB196 G_2 H_2 r0 r1 z_18 bo qc_2 qa_2 m_qa_2 LC LS) (cwV 2 hts (jgV (jWr_40 _ (List.mem_of_getElem? (i := 15) rfl)) (jWr_40 _ (List.mem_of_getElem? (i := 16) rfl)) (jWr_40 _ (List.mem_of_getElem? (i := 17) rfl)) (jWr_1 _ (List.mem_of_getElem? (i := 2) rfl)) (jWr_40 _ (List.mem_of_getElem? (i := 18) rfl))) rfl rfl rfl (by decide +kernel) ⟨by rw [← hR]; exact Nat.le_of_ble_eq_true rfl, by rw [← hR]; exact Nat.le_of_ble_eq_true rfl⟩) ⟨fun a U g mk q => by obtain ⟨q0, q1, q2, qK, q10, q11, q12, q13, q14, q15, q16⟩ := q; exact ⟨q0, q1, q2, jG.calling g mk a qK, q10, q11, q12, q13, q14, q15, q16⟩, hh_16.recv (C := RX11) (T := TX11) (N := 19) hB13 rfl (by decide) hg_5 hK, fun U hU hW => ⟨rfl, hU, hh_16.2.1, hG.step hW hU hh_16.1, hg_6, hg_5, hg_7, hgq_2_0, (hh_16.2.2.1.sub (L1 := [(r0, 13, 4, .ref bo), (bo, 2, 1, .int qc_2), (bo, 2, 0, .ref qa_2)]) [3, 1, 2] rfl), (hh_16.2.2.2.2.2.2.2.2.sub (L1 := [(jFy, jYb dC dI G_2)]) [0] rfl), (by omega), (by omega), ⟨(by first | omega | rfl | assumption | fail), (by first | omega | rfl | assumption | fail), (by first | omega | rfl | assumption | fail), (by first | omega | rfl | assumption | fail), (by first | assumption | fail | omega)⟩⟩⟩ rfl rfl hl.1 rfl (lv_room (Nat.le_of_ble_eq_true rfl)) dX11_diagnostic_18 ⟨by rw [hRc]; omega, by rw [hRs]; omega⟩) hh_16.1 (fun q _ h => h) (fun q h => h) (fun u_19 t_19 H_19 locs_19 ht_19 hvm_19 hr_20 hb_19 hz_19 hk_19 hS_19 => ?_)
  obtain ⟨qc_19, qa_19, m_qa_19, G_19⟩ := u_19
  rw [ht_19] at hb_19
  simp only at hb_19
  obtain ⟨⟨hb_191, hb_192, hb_193, hb_194, hb_195, hb_196⟩, hgq_19_0, hN_19, hbO_19, hbE_19⟩ := hb_19
  have hh_19 : jSt (dC, dI) B base G0 G_19 EX11_diagnostic s.heap (((m_qa_2 - n_pa) / 16) + ((m_qa_19 - m_qa_2) / 16)) ((2 * (m_qa_2 - n_pa)) + (2 * (m_qa_19 - m_qa_2))) [(bo, 2, 1, .int qc_19), (bo, 2, 0, .ref qa_19), (r1, 3, 5, .ref starts_17), (r0, 13, 4, .ref bo), (r1, 3, 9, .ref bh)] [] [([(210, 0)], jQc dC dI (ca 6) bh 40 fq)] H_19 locs_19 := (hh_16.callG hb_191 hb_192 hb_193 hb_194 hb_195 hS_19 rfl (L1 := [(r1, 3, 5, .ref starts_17), (r0, 13, 4, .ref bo), (r1, 3, 9, .ref bh)]) [0, 3, 4] rfl rfl (M1 := []) [] rfl rfl (I1 := [([(210, 0)], jQc dC dI (ca 6) bh 40 fq)]) [2] rfl rfl).more hb_196
  have hNn_19 : (jNk [0, 1, 2, 3, 4, 5, 6, 7, 8, 9, 10, 11, 12, 13, 14, 15, 16, 17, 175]) G0 G_19 := (hNn_2).tr hN_19
  have hg_21 := hb_192 _ _ hg_5
  have hg_22 := hb_192 _ _ hg_6
  have hg_23 := hb_192 _ _ hg_starts_17
  have hg_24 := hb_192 _ _ hg_7
  have hg_25 := hb_192 _ _ hg_8
  have hh_27 := hh_19.addIs hbE_19
  have hd_28 := jOl.trL (hh_16.iv 1 rfl) hh_16.2.2.2.2.1 hbO_19 (by simp)
  have hh_29 := hh_27.addI (jOl.ie (dC := dC) (dI := dI) (G0 := G0) (k := 2) (rs := [bo]) (H0 := s.heap) (F := [(2, 0), (2, 1)]) (C := RX0) (T := TX0) (N := 2) rfl (by decide) hh_27.2.2.2.2.1 (hd_28))
  clear hh_27
  try simp only at hr_20
  obtain ⟨hr_20_0, hr_20_1, hr_20_2, hr_20_3, hr_20_4⟩ := hr_20
  have hh_30 := hh_29.wk (zc1 := (m_qa_19 - n_pa) / 16) (zs1 := 2 * (m_qa_19 - n_pa)) (by omega) (by omega)
  clear hh_29
  try clear hsz_19 htt_19 hrc_19 hrs_19
  try clear hb_194 hb_195
  refine lv_aload_n hx hb dX11_diagnostic_21 rfl (lv_at hl 0 rfl) ?_
  refine j7_read hx hb hown hK (C := RX11) (T := TX11) (N := 19) rfl hly_13_4 hlk_35 (hh_30.at 3 rfl) dX11_diagnostic_22 ?_
  refine j_ldcSw hx hb hown rstr522 dX11_diagnostic_25 ?_
  have hsz_31 := hh_30.2.2.2.2.2.1
  have htt_31 := hh_30.2.2.2.2.2.2.1
  refine W.room (fun hrc_31 hrs_31 => ?_)
  refine va_callv (A0 := jA base) (H0 := s.heap) (va_runV (As := [.ref str522]) (rest := []) ⟨hx, hb, hml, hown, hts⟩ (uX0_text l dC dI ca base B hB hAp hB2 hB196 G_19 H_19 bo str522 7 qc_19 qa_19 m_qa_19 LC LS) (cwV 1 hts (jgV (jWr_26 _ (List.mem_of_getElem? (i := 11) rfl)) (jWr_25 _ (List.mem_of_getElem? (i := 22) rfl)) (jWr_25 _ (List.mem_of_getElem? (i := 23) rfl)) (jWr_1 _ (List.mem_of_getElem? (i := 14) rfl)) (jWr_26 _ (List.mem_of_getElem? (i := 0) rfl))) rfl rfl rfl (by decide +kernel) ⟨by rw [← hR]; exact Nat.le_of_ble_eq_true rfl, by rw [← hR]; exact Nat.le_of_ble_eq_true rfl⟩) ⟨fun a U g mk q => by obtain ⟨q0, q1, q2, qK, q10, q11, q12, q13, q14⟩ := q; exact ⟨q0, q1, q2, jG.calling g mk a qK, (q10.moved (Vm.Alike.refl U.vm)), q11, q12, q13, q14⟩, hh_30.recv (C := RX0) (T := TX0) (N := 2) hB2 rfl (by decide) hg_24 hK, fun U hU hW => ⟨rfl, hU, hh_30.2.1, hG.step hW hU hh_30.1, (hstr522.moved hW.alike).kept hh_30.1.2.1, hg_24, hgq_19_0, (hh_30.2.2.1.sub (L1 := [(bo, 2, 1, .int qc_19), (bo, 2, 0, .ref qa_19)]) [0, 1] rfl), (by omega), (by omega), ⟨(by first | omega | rfl | assumption | fail), (by first | omega | rfl | assumption | fail), (by first | omega | rfl | assumption | fail), (by first | omega | rfl | assumption | fail), (by first | assumption | fail | omega), (by first | omega | rfl | assumption | fail)⟩⟩⟩ rfl rfl hl.1 rfl (lv_room (Nat.le_of_ble_eq_true rfl)) dX11_diagnostic_28 ⟨by rw [hRc]; omega, by rw [hRs]; omega⟩) hh_30.1 (fun q _ h => h) (fun q h => h) (fun u_31 t_31 H_31 locs_31 ht_31 hvm_31 hr_32 hb_31 hz_31 hk_31 hS_31 => ?_)
  obtain ⟨qc_31, qa_31, m_qa_31, G_31⟩ := u_31
  rw [ht_31] at hb_31
  simp only at hb_31
  obtain ⟨⟨hb_311, hb_312, hb_313, hb_314, hb_315, hb_316⟩, hgq_31_0, hN_31, hbO_31⟩ := hb_31
  have hy_33 := hh_30.iv 1 rfl
  have hh_31 : jSt (dC, dI) B base G0 G_31 EX11_diagnostic s.heap (((m_qa_19 - n_pa) / 16) + ((m_qa_31 - m_qa_19) / 16)) ((2 * (m_qa_19 - n_pa)) + (2 * (m_qa_31 - m_qa_19))) [(bo, 2, 1, .int qc_31), (bo, 2, 0, .ref qa_31), (r1, 3, 5, .ref starts_17), (r0, 13, 4, .ref bo), (r1, 3, 9, .ref bh)] [] [([(210, 0)], jQc dC dI (ca 6) bh 40 fq)] H_31 locs_31 := (hh_30.callG hb_311 hb_312 hb_313 hb_314 hb_315 hS_31 rfl (L1 := [(r1, 3, 5, .ref starts_17), (r0, 13, 4, .ref bo), (r1, 3, 9, .ref bh)]) [2, 3, 4] rfl rfl (M1 := []) [] rfl rfl (I1 := [([(210, 0)], jQc dC dI (ca 6) bh 40 fq)]) [2] rfl rfl).more hb_316
  have hNn_31 : (jNk [0, 1, 2, 3, 4, 5, 6, 7, 8, 9, 10, 11, 12, 13, 14, 15, 16, 17, 175]) G0 G_31 := (hNn_19).tr hN_31
  have hg_34 := hb_312 _ _ hg_21
  have hg_35 := hb_312 _ _ hg_22
  have hg_36 := hb_312 _ _ hg_23
  have hg_37 := hb_312 _ _ hg_24
  have hg_38 := hb_312 _ _ hg_25
  have hd_40 := jOl.trO (hh_30.iv 0 rfl) hh_30.2.2.2.2.1 hbO_31 (by simp)
  have hh_41 := hh_31.addI (jOl.ie (dC := dC) (dI := dI) (G0 := G0) (k := 2) (rs := [bo]) (H0 := s.heap) (F := [(2, 0), (2, 1)]) (C := RX0) (T := TX0) (N := 2) rfl (by decide) hh_31.2.2.2.2.1 (hd_40))
  clear hh_31
  have hyp_31 : qc_31.toInt ≤ (m_qa_31 : Nat) ∧ m_qa_31 ≤ 1048576 := by (try simp only at hr_32); omega
  have hy_42 := jYb.own hy_33 hbO_31 hb_312 hN_31 (by decide) (fun _ => ⟨_, _, _, hh_41.at 0 rfl, hh_41.at 1 rfl, hgq_31_0, hyp_31⟩)
  have hh_43 := hh_41.addI (jYb.ie hy_42)
  clear hh_41
  try simp only at hr_32
  obtain ⟨hr_32_0, hr_32_1, hr_32_2, hr_32_3, hr_32_4⟩ := hr_32
  have hh_44 := hh_43.wk (zc1 := (m_qa_31 - n_pa) / 16) (zs1 := 2 * (m_qa_31 - n_pa)) (by omega) (by omega)
  clear hh_43
  try clear hsz_31 htt_31 hrc_31 hrs_31
  try clear hb_314 hb_315
  refine lv_aload_n hx hb dX11_diagnostic_31 rfl (lv_at hl 0 rfl) ?_
  refine lv_aload_n hx hb dX11_diagnostic_32 rfl (lv_at hl 1 rfl) ?_
  refine lv_aload_n hx hb dX11_diagnostic_33 rfl (lv_at hl 1 rfl) ?_
  obtain ⟨v_45, hv_45, hh_46⟩ := hh_44.pin (C := RX1) (T := TX1) (N := 17) hB3 rfl (by decide) hg_35 (i := 6) (by decide) rfl
  clear hh_44
  obtain ⟨ends_47, rfl, hg_ends_47⟩ := hv_45
  refine j7_read hx hb hown hK (C := RX1) (T := TX1) (N := 17) rfl hly_3_6 hlk_185 (hh_46.at 0 rfl) dX11_diagnostic_34 ?_
  refine lv_iload_n hx hb dX11_diagnostic_37 rfl (lv_at hl 2 rfl) ?_
  refine j7_iald hx hb hK hh_46 hB172 1 rfl (by decide) hg_ends_47 (x := a2.toInt) (rfl) (by omega) dX11_diagnostic_38 (fun z_48 (hz_48 : 0 ≤ z_48.toInt ∧ z_48.toInt ≤ 1500) => ?_)
  have hsz_49 := hh_46.2.2.2.2.2.1
  have htt_49 := hh_46.2.2.2.2.2.2.1
  refine W.room (fun hrc_49 hrs_49 => ?_)
  refine va_callv (A0 := jA base) (H0 := s.heap) (va_runV (As := [.ref r1, .int z_48]) (rest := []) ⟨hx, hb, hml, hown, hts⟩ (uX11_position l dC dI ca base B hB hAp hB2 hB3 hB13 hB173 hB196 G_31 H_31 r0 r1 z_48 bo qc_31 qa_31 m_qa_31 LC LS) (cwV 2 hts (jgV (jWr_40 _ (List.mem_of_getElem? (i := 15) rfl)) (jWr_40 _ (List.mem_of_getElem? (i := 16) rfl)) (jWr_40 _ (List.mem_of_getElem? (i := 17) rfl)) (jWr_1 _ (List.mem_of_getElem? (i := 2) rfl)) (jWr_40 _ (List.mem_of_getElem? (i := 18) rfl))) rfl rfl rfl (by decide +kernel) ⟨by rw [← hR]; exact Nat.le_of_ble_eq_true rfl, by rw [← hR]; exact Nat.le_of_ble_eq_true rfl⟩) ⟨fun a U g mk q => by obtain ⟨q0, q1, q2, qK, q10, q11, q12, q13, q14, q15, q16⟩ := q; exact ⟨q0, q1, q2, jG.calling g mk a qK, q10, q11, q12, q13, q14, q15, q16⟩, hh_46.recv (C := RX11) (T := TX11) (N := 19) hB13 rfl (by decide) hg_34 hK, fun U hU hW => ⟨rfl, hU, hh_46.2.1, hG.step hW hU hh_46.1, hg_35, hg_34, hg_37, hgq_31_0, (hh_46.2.2.1.sub (L1 := [(r0, 13, 4, .ref bo), (bo, 2, 1, .int qc_31), (bo, 2, 0, .ref qa_31)]) [4, 1, 2] rfl), (hh_46.2.2.2.2.2.2.2.2.sub (L1 := [(jFy, jYb dC dI G_31)]) [0] rfl), (by omega), (by omega), ⟨(by first | omega | rfl | assumption | fail), (by first | omega | rfl | assumption | fail), (by first | omega | rfl | assumption | fail), (by first | omega | rfl | assumption | fail), (by first | assumption | fail | omega)⟩⟩⟩ rfl rfl hl.1 rfl (lv_room (Nat.le_of_ble_eq_true rfl)) dX11_diagnostic_39 ⟨by rw [hRc]; omega, by rw [hRs]; omega⟩) hh_46.1 (fun q _ h => h) (fun q h => h) (fun u_49 t_49 H_49 locs_49 ht_49 hvm_49 hr_50 hb_49 hz_49 hk_49 hS_49 => ?_)
  obtain ⟨qc_49, qa_49, m_qa_49, G_49⟩ := u_49
  rw [ht_49] at hb_49
  simp only at hb_49
  obtain ⟨⟨hb_491, hb_492, hb_493, hb_494, hb_495, hb_496⟩, hgq_49_0, hN_49, hbO_49, hbE_49⟩ := hb_49
  have hh_49 : jSt (dC, dI) B base G0 G_49 EX11_diagnostic s.heap (((m_qa_31 - n_pa) / 16) + ((m_qa_49 - m_qa_31) / 16)) ((2 * (m_qa_31 - n_pa)) + (2 * (m_qa_49 - m_qa_31))) [(bo, 2, 1, .int qc_49), (bo, 2, 0, .ref qa_49), (r1, 3, 6, .ref ends_47), (r1, 3, 5, .ref starts_17), (r0, 13, 4, .ref bo), (r1, 3, 9, .ref bh)] [] [([(210, 0)], jQc dC dI (ca 6) bh 40 fq)] H_49 locs_49 := (hh_46.callG hb_491 hb_492 hb_493 hb_494 hb_495 hS_49 rfl (L1 := [(r1, 3, 6, .ref ends_47), (r1, 3, 5, .ref starts_17), (r0, 13, 4, .ref bo), (r1, 3, 9, .ref bh)]) [0, 3, 4, 5] rfl rfl (M1 := []) [] rfl rfl (I1 := [([(210, 0)], jQc dC dI (ca 6) bh 40 fq)]) [2] rfl rfl).more hb_496
  have hNn_49 : (jNk [0, 1, 2, 3, 4, 5, 6, 7, 8, 9, 10, 11, 12, 13, 14, 15, 16, 17, 175]) G0 G_49 := (hNn_31).tr hN_49
  have hg_51 := hb_492 _ _ hg_34
  have hg_52 := hb_492 _ _ hg_35
  have hg_53 := hb_492 _ _ hg_ends_47
  have hg_54 := hb_492 _ _ hg_36
  have hg_55 := hb_492 _ _ hg_37
  have hg_56 := hb_492 _ _ hg_38
  have hh_58 := hh_49.addIs hbE_49
  have hd_59 := jOl.trL (hh_46.iv 1 rfl) hh_46.2.2.2.2.1 hbO_49 (by simp)
  have hh_60 := hh_58.addI (jOl.ie (dC := dC) (dI := dI) (G0 := G0) (k := 2) (rs := [bo]) (H0 := s.heap) (F := [(2, 0), (2, 1)]) (C := RX0) (T := TX0) (N := 2) rfl (by decide) hh_58.2.2.2.2.1 (hd_59))
  clear hh_58
  try simp only at hr_50
  obtain ⟨hr_50_0, hr_50_1, hr_50_2, hr_50_3, hr_50_4⟩ := hr_50
  have hh_61 := hh_60.wk (zc1 := (m_qa_49 - n_pa) / 16) (zs1 := 2 * (m_qa_49 - n_pa)) (by omega) (by omega)
  clear hh_60
  try clear hsz_49 htt_49 hrc_49 hrs_49
  try clear hb_494 hb_495
  refine lv_aload_n hx hb dX11_diagnostic_42 rfl (lv_at hl 0 rfl) ?_
  refine j7_read hx hb hown hK (C := RX11) (T := TX11) (N := 19) rfl hly_13_4 hlk_35 (hh_61.at 4 rfl) dX11_diagnostic_43 ?_
  refine j_ldcSw hx hb hown rstr524 dX11_diagnostic_46 ?_
  have hsz_62 := hh_61.2.2.2.2.2.1
  have htt_62 := hh_61.2.2.2.2.2.2.1
  refine W.room (fun hrc_62 hrs_62 => ?_)
  refine va_callv (A0 := jA base) (H0 := s.heap) (va_runV (As := [.ref str524]) (rest := []) ⟨hx, hb, hml, hown, hts⟩ (uX0_text l dC dI ca base B hB hAp hB2 hB196 G_49 H_49 bo str524 26 qc_49 qa_49 m_qa_49 LC LS) (cwV 1 hts (jgV (jWr_26 _ (List.mem_of_getElem? (i := 11) rfl)) (jWr_25 _ (List.mem_of_getElem? (i := 22) rfl)) (jWr_25 _ (List.mem_of_getElem? (i := 23) rfl)) (jWr_1 _ (List.mem_of_getElem? (i := 14) rfl)) (jWr_26 _ (List.mem_of_getElem? (i := 0) rfl))) rfl rfl rfl (by decide +kernel) ⟨by rw [← hR]; exact Nat.le_of_ble_eq_true rfl, by rw [← hR]; exact Nat.le_of_ble_eq_true rfl⟩) ⟨fun a U g mk q => by obtain ⟨q0, q1, q2, qK, q10, q11, q12, q13, q14⟩ := q; exact ⟨q0, q1, q2, jG.calling g mk a qK, (q10.moved (Vm.Alike.refl U.vm)), q11, q12, q13, q14⟩, hh_61.recv (C := RX0) (T := TX0) (N := 2) hB2 rfl (by decide) hg_55 hK, fun U hU hW => ⟨rfl, hU, hh_61.2.1, hG.step hW hU hh_61.1, (hstr524.moved hW.alike).kept hh_61.1.2.1, hg_55, hgq_49_0, (hh_61.2.2.1.sub (L1 := [(bo, 2, 1, .int qc_49), (bo, 2, 0, .ref qa_49)]) [0, 1] rfl), (by omega), (by omega), ⟨(by first | omega | rfl | assumption | fail), (by first | omega | rfl | assumption | fail), (by first | omega | rfl | assumption | fail), (by first | omega | rfl | assumption | fail), (by first | assumption | fail | omega), (by first | omega | rfl | assumption | fail)⟩⟩⟩ rfl rfl hl.1 rfl (lv_room (Nat.le_of_ble_eq_true rfl)) dX11_diagnostic_49 ⟨by rw [hRc]; omega, by rw [hRs]; omega⟩) hh_61.1 (fun q _ h => h) (fun q h => h) (fun u_62 t_62 H_62 locs_62 ht_62 hvm_62 hr_63 hb_62 hz_62 hk_62 hS_62 => ?_)
  obtain ⟨qc_62, qa_62, m_qa_62, G_62⟩ := u_62
  rw [ht_62] at hb_62
  simp only at hb_62
  obtain ⟨⟨hb_621, hb_622, hb_623, hb_624, hb_625, hb_626⟩, hgq_62_0, hN_62, hbO_62⟩ := hb_62
  have hy_64 := hh_61.iv 1 rfl
  have hh_62 : jSt (dC, dI) B base G0 G_62 EX11_diagnostic s.heap (((m_qa_49 - n_pa) / 16) + ((m_qa_62 - m_qa_49) / 16)) ((2 * (m_qa_49 - n_pa)) + (2 * (m_qa_62 - m_qa_49))) [(bo, 2, 1, .int qc_62), (bo, 2, 0, .ref qa_62), (r1, 3, 6, .ref ends_47), (r1, 3, 5, .ref starts_17), (r0, 13, 4, .ref bo), (r1, 3, 9, .ref bh)] [] [([(210, 0)], jQc dC dI (ca 6) bh 40 fq)] H_62 locs_62 := (hh_61.callG hb_621 hb_622 hb_623 hb_624 hb_625 hS_62 rfl (L1 := [(r1, 3, 6, .ref ends_47), (r1, 3, 5, .ref starts_17), (r0, 13, 4, .ref bo), (r1, 3, 9, .ref bh)]) [2, 3, 4, 5] rfl rfl (M1 := []) [] rfl rfl (I1 := [([(210, 0)], jQc dC dI (ca 6) bh 40 fq)]) [2] rfl rfl).more hb_626
  have hNn_62 : (jNk [0, 1, 2, 3, 4, 5, 6, 7, 8, 9, 10, 11, 12, 13, 14, 15, 16, 17, 175]) G0 G_62 := (hNn_49).tr hN_62
  have hg_65 := hb_622 _ _ hg_51
  have hg_66 := hb_622 _ _ hg_52
  have hg_67 := hb_622 _ _ hg_53
  have hg_68 := hb_622 _ _ hg_54
  have hg_69 := hb_622 _ _ hg_55
  have hg_70 := hb_622 _ _ hg_56
  have hd_72 := jOl.trO (hh_61.iv 0 rfl) hh_61.2.2.2.2.1 hbO_62 (by simp)
  have hh_73 := hh_62.addI (jOl.ie (dC := dC) (dI := dI) (G0 := G0) (k := 2) (rs := [bo]) (H0 := s.heap) (F := [(2, 0), (2, 1)]) (C := RX0) (T := TX0) (N := 2) rfl (by decide) hh_62.2.2.2.2.1 (hd_72))
  clear hh_62
  have hyp_62 : qc_62.toInt ≤ (m_qa_62 : Nat) ∧ m_qa_62 ≤ 1048576 := by (try simp only at hr_63); omega
  have hy_74 := jYb.own hy_64 hbO_62 hb_622 hN_62 (by decide) (fun _ => ⟨_, _, _, hh_73.at 0 rfl, hh_73.at 1 rfl, hgq_62_0, hyp_62⟩)
  have hh_75 := hh_73.addI (jYb.ie hy_74)
  clear hh_73
  try simp only at hr_63
  obtain ⟨hr_63_0, hr_63_1, hr_63_2, hr_63_3, hr_63_4⟩ := hr_63
  have hh_76 := hh_75.wk (zc1 := (m_qa_62 - n_pa) / 16) (zs1 := 2 * (m_qa_62 - n_pa)) (by omega) (by omega)
  clear hh_75
  try clear hsz_62 htt_62 hrc_62 hrs_62
  try clear hb_624 hb_625
  refine lv_aload_n hx hb dX11_diagnostic_52 rfl (lv_at hl 0 rfl) ?_
  refine j7_read hx hb hown hK (C := RX11) (T := TX11) (N := 19) rfl hly_13_4 hlk_35 (hh_76.at 4 rfl) dX11_diagnostic_53 ?_
  refine lv_aload_n hx hb dX11_diagnostic_56 rfl (lv_at hl 1 rfl) ?_
  refine j7_read hx hb hown hK (C := RX1) (T := TX1) (N := 17) rfl hly_3_9 hlk_178 (hh_76.at 5 rfl) dX11_diagnostic_57 ?_
  refine lv_iload_n hx hb dX11_diagnostic_60 rfl (lv_at hl 2 rfl) ?_
  refine j7_qaldI hx hb hK2 hh_76 hB210 2 rfl (by decide) hg_70 (x := a2.toInt) (rfl) (by omega) (hh_76.iv 2 rfl) dX11_diagnostic_61 (fun o_77 ho_77 heo_77 => ?_)
  rcases ho_77 with rfl | ⟨el_78, rfl, hg_el_78⟩
  · simp only [va_rf]
    exact absurd heo_77.symm hp7
  · simp only [va_rf]
    obtain ⟨v_79, hv_79, hh_80⟩ := hh_76.pin (C := RX9) (T := TX9) (N := 9) hB11 rfl (by decide) hg_el_78 (i := 2) (by decide) rfl
    clear hh_76
    obtain ⟨fault_81, rfl⟩ := hv_79
    refine j7_read hx hb hown hK (C := RX9) (T := TX9) (N := 9) rfl hly_11_2 hlk_188 (hh_80.at 0 rfl) dX11_diagnostic_62 ?_
    have hsz_82 := hh_80.2.2.2.2.2.1
    have htt_82 := hh_80.2.2.2.2.2.2.1
    refine W.room (fun hrc_82 hrs_82 => ?_)
    refine j_callx (A0 := jA base) (H0 := s.heap) (va_runS (As := [.int fault_81]) (rest := [.ref bo]) ⟨hx, hb, hml, hown, hts⟩ (uX11_faultText l dC dI ca base B hB hAp G_62 H_62 fault_81) (va_cwS 1 hts (jgS (jWr_41 _ (List.mem_of_getElem? (i := 1) rfl)) (jWr_41 _ (List.mem_of_getElem? (i := 2) rfl)) (jWr_1 _ (List.mem_of_getElem? (i := 2) rfl)) (jWr_41 _ (List.mem_of_getElem? (i := 3) rfl))) rfl rfl rfl (by decide +kernel) ⟨by rw [← hR]; exact Nat.le_of_ble_eq_true rfl, by rw [← hR]; exact Nat.le_of_ble_eq_true rfl⟩) ⟨fun a U g mk q => by obtain ⟨q0, q1, q2, qK, q10, q11⟩ := q; exact ⟨q0, q1, q2, jG.calling g mk a qK, q10, q11⟩, fun U hU hW => ⟨rfl, hU, hh_80.2.1, hG.step hW hU hh_80.1, jP.nil, trivial⟩⟩ rfl rfl hl.1 rfl (lv_room (Nat.le_of_ble_eq_true rfl)) dX11_diagnostic_65 ⟨by rw [hRc]; show _ + 0 ≤ _; omega, by rw [hRs]; show _ + 0 ≤ _; omega⟩) hh_80.1 (fun q _ h => h) (fun q h => h) (fun r_83 u_82 t_82 H_82 locs_82 ht_82 hvm_82 hr_83 hb_82 hz_82 hk_82 hS_82 => ?_)
    rw [ht_82] at hb_82
    obtain ⟨hb_82, hbV_82⟩ := hb_82
    obtain ⟨hb_821, hb_822, hb_823, hb_824, hb_825⟩ := hb_82
    have hh_82 : jSt (dC, dI) B base G0 G_62 EX11_diagnostic s.heap ((m_qa_62 - n_pa) / 16) (2 * (m_qa_62 - n_pa)) [(el_78, 11, 2, .int fault_81), (bo, 2, 1, .int qc_62), (bo, 2, 0, .ref qa_62), (r1, 3, 6, .ref ends_47), (r1, 3, 5, .ref starts_17), (r0, 13, 4, .ref bo), (r1, 3, 9, .ref bh)] [] [(jFy, jYb dC dI G_62), ([(2, 0), (2, 1)], jOl (dC, dI) G0 2 [bo] s.heap), ([(210, 0)], jQc dC dI (ca 6) bh 40 fq)] H_82 locs_82 := ((hh_80.call hb_821 hb_822 hb_823 hb_824 hS_82 rfl (L1 := [(el_78, 11, 2, .int fault_81), (bo, 2, 1, .int qc_62), (bo, 2, 0, .ref qa_62), (r1, 3, 6, .ref ends_47), (r1, 3, 5, .ref starts_17), (r0, 13, 4, .ref bo), (r1, 3, 9, .ref bh)]) [0, 1, 2, 3, 4, 5, 6] rfl rfl (M1 := []) [] rfl rfl (I1 := [(jFy, jYb dC dI G_62), ([(2, 0), (2, 1)], jOl (dC, dI) G0 2 [bo] s.heap), ([(210, 0)], jQc dC dI (ca 6) bh 40 fq)]) [0, 1, 2] rfl rfl).more hb_825)
    obtain ⟨rfl, hn_82⟩ := hr_83
    have hstr_82 : jStr base u_82.1 u_82.2 s s.heap := hbV_82.back hvm_82 hbs hh_82.1.2.1
    clear hh_80 ht_82 hvm_82 hz_82 hk_82 hS_82 hb_821 hb_822 hb_823 hb_824 hb_825
    have hsz_84 := hh_82.2.2.2.2.2.1
    have htt_84 := hh_82.2.2.2.2.2.2.1
    refine W.room (fun hrc_84 hrs_84 => ?_)
    refine va_callv (A0 := jA base) (H0 := s.heap) (va_runV (As := [.ref u_82.1]) (rest := []) ⟨hx, hb, hml, hown, hts⟩ (uX0_text l dC dI ca base B hB hAp hB2 hB196 G_62 H_82 bo u_82.1 u_82.2 qc_62 qa_62 m_qa_62 LC LS) (cwV 1 hts (jgV (jWr_26 _ (List.mem_of_getElem? (i := 11) rfl)) (jWr_25 _ (List.mem_of_getElem? (i := 22) rfl)) (jWr_25 _ (List.mem_of_getElem? (i := 23) rfl)) (jWr_1 _ (List.mem_of_getElem? (i := 14) rfl)) (jWr_26 _ (List.mem_of_getElem? (i := 0) rfl))) rfl rfl rfl (by decide +kernel) ⟨by rw [← hR]; exact Nat.le_of_ble_eq_true rfl, by rw [← hR]; exact Nat.le_of_ble_eq_true rfl⟩) ⟨fun a U g mk q => by obtain ⟨q0, q1, q2, qK, q10, q11, q12, q13, q14⟩ := q; exact ⟨q0, q1, q2, jG.calling g mk a qK, (q10.moved (Vm.Alike.refl U.vm)), q11, q12, q13, q14⟩, hh_82.recv (C := RX0) (T := TX0) (N := 2) hB2 rfl (by decide) hg_69 hK, fun U hU hW => ⟨rfl, hU, hh_82.2.1, hG.step hW hU hh_82.1, (hstr_82.moved hW.alike).kept hh_82.1.2.1, hg_69, hgq_62_0, (hh_82.2.2.1.sub (L1 := [(bo, 2, 1, .int qc_62), (bo, 2, 0, .ref qa_62)]) [1, 2] rfl), (by omega), (by omega), ⟨(by first | omega | rfl | assumption | fail), (by first | omega | rfl | assumption | fail), (by first | omega | rfl | assumption | fail), (by first | omega | rfl | assumption | fail), (by first | assumption | fail | omega), (by first | omega | rfl | assumption | fail)⟩⟩⟩ rfl rfl hl.1 rfl (lv_room (Nat.le_of_ble_eq_true rfl)) dX11_diagnostic_68 ⟨by rw [hRc]; omega, by rw [hRs]; omega⟩) hh_82.1 (fun q _ h => h) (fun q h => h) (fun u_84 t_84 H_84 locs_84 ht_84 hvm_84 hr_85 hb_84 hz_84 hk_84 hS_84 => ?_)
    obtain ⟨qc_84, qa_84, m_qa_84, G_84⟩ := u_84
    rw [ht_84] at hb_84
    simp only at hb_84
    obtain ⟨⟨hb_841, hb_842, hb_843, hb_844, hb_845, hb_846⟩, hgq_84_0, hN_84, hbO_84⟩ := hb_84
    have hy_86 := hh_82.iv 0 rfl
    have hh_84 : jSt (dC, dI) B base G0 G_84 EX11_diagnostic s.heap (((m_qa_62 - n_pa) / 16) + ((m_qa_84 - m_qa_62) / 16)) ((2 * (m_qa_62 - n_pa)) + (2 * (m_qa_84 - m_qa_62))) [(bo, 2, 1, .int qc_84), (bo, 2, 0, .ref qa_84), (el_78, 11, 2, .int fault_81), (r1, 3, 6, .ref ends_47), (r1, 3, 5, .ref starts_17), (r0, 13, 4, .ref bo), (r1, 3, 9, .ref bh)] [] [([(210, 0)], jQc dC dI (ca 6) bh 40 fq)] H_84 locs_84 := (hh_82.callG hb_841 hb_842 hb_843 hb_844 hb_845 hS_84 rfl (L1 := [(el_78, 11, 2, .int fault_81), (r1, 3, 6, .ref ends_47), (r1, 3, 5, .ref starts_17), (r0, 13, 4, .ref bo), (r1, 3, 9, .ref bh)]) [0, 3, 4, 5, 6] rfl rfl (M1 := []) [] rfl rfl (I1 := [([(210, 0)], jQc dC dI (ca 6) bh 40 fq)]) [2] rfl rfl).more hb_846
    have hNn_84 : (jNk [0, 1, 2, 3, 4, 5, 6, 7, 8, 9, 10, 11, 12, 13, 14, 15, 16, 17, 175]) G0 G_84 := (hNn_62).tr hN_84
    have hg_87 := hb_842 _ _ hg_65
    have hg_88 := hb_842 _ _ hg_66
    have hg_89 := hb_842 _ _ hg_67
    have hg_90 := hb_842 _ _ hg_68
    have hg_91 := hb_842 _ _ hg_69
    have hg_92 := hb_842 _ _ hg_70
    have hd_94 := jOl.trO (hh_82.iv 1 rfl) hh_82.2.2.2.2.1 hbO_84 (by simp)
    have hh_95 := hh_84.addI (jOl.ie (dC := dC) (dI := dI) (G0 := G0) (k := 2) (rs := [bo]) (H0 := s.heap) (F := [(2, 0), (2, 1)]) (C := RX0) (T := TX0) (N := 2) rfl (by decide) hh_84.2.2.2.2.1 (hd_94))
    clear hh_84
    have hyp_84 : qc_84.toInt ≤ (m_qa_84 : Nat) ∧ m_qa_84 ≤ 1048576 := by (try simp only at hr_85); omega
    have hy_96 := jYb.own hy_86 hbO_84 hb_842 hN_84 (by decide) (fun _ => ⟨_, _, _, hh_95.at 0 rfl, hh_95.at 1 rfl, hgq_84_0, hyp_84⟩)
    have hh_97 := hh_95.addI (jYb.ie hy_96)
    clear hh_95
    try simp only at hr_85
    obtain ⟨hr_85_0, hr_85_1, hr_85_2, hr_85_3, hr_85_4⟩ := hr_85
    have hh_98 := hh_97.wk (zc1 := (m_qa_84 - n_pa) / 16) (zs1 := 2 * (m_qa_84 - n_pa)) (by omega) (by omega)
    clear hh_97
    try clear hsz_84 htt_84 hrc_84 hrs_84
    try clear hb_844 hb_845
    refine lv_aload_n hx hb dX11_diagnostic_71 rfl (lv_at hl 0 rfl) ?_
    refine j7_read hx hb hown hK (C := RX11) (T := TX11) (N := 19) rfl hly_13_4 hlk_35 (hh_98.at 5 rfl) dX11_diagnostic_72 ?_
    refine j_ldcSw hx hb hown rstr529 dX11_diagnostic_75 ?_
    have hsz_99 := hh_98.2.2.2.2.2.1
    have htt_99 := hh_98.2.2.2.2.2.2.1
    refine W.room (fun hrc_99 hrs_99 => ?_)
    refine va_callv (A0 := jA base) (H0 := s.heap) (va_runV (As := [.ref str529]) (rest := []) ⟨hx, hb, hml, hown, hts⟩ (uX0_text l dC dI ca base B hB hAp hB2 hB196 G_84 H_84 bo str529 2 qc_84 qa_84 m_qa_84 LC LS) (cwV 1 hts (jgV (jWr_26 _ (List.mem_of_getElem? (i := 11) rfl)) (jWr_25 _ (List.mem_of_getElem? (i := 22) rfl)) (jWr_25 _ (List.mem_of_getElem? (i := 23) rfl)) (jWr_1 _ (List.mem_of_getElem? (i := 14) rfl)) (jWr_26 _ (List.mem_of_getElem? (i := 0) rfl))) rfl rfl rfl (by decide +kernel) ⟨by rw [← hR]; exact Nat.le_of_ble_eq_true rfl, by rw [← hR]; exact Nat.le_of_ble_eq_true rfl⟩) ⟨fun a U g mk q => by obtain ⟨q0, q1, q2, qK, q10, q11, q12, q13, q14⟩ := q; exact ⟨q0, q1, q2, jG.calling g mk a qK, (q10.moved (Vm.Alike.refl U.vm)), q11, q12, q13, q14⟩, hh_98.recv (C := RX0) (T := TX0) (N := 2) hB2 rfl (by decide) hg_91 hK, fun U hU hW => ⟨rfl, hU, hh_98.2.1, hG.step hW hU hh_98.1, (hstr529.moved hW.alike).kept hh_98.1.2.1, hg_91, hgq_84_0, (hh_98.2.2.1.sub (L1 := [(bo, 2, 1, .int qc_84), (bo, 2, 0, .ref qa_84)]) [0, 1] rfl), (by omega), (by omega), ⟨(by first | omega | rfl | assumption | fail), (by first | omega | rfl | assumption | fail), (by first | omega | rfl | assumption | fail), (by first | omega | rfl | assumption | fail), (by first | assumption | fail | omega), (by first | omega | rfl | assumption | fail)⟩⟩⟩ rfl rfl hl.1 rfl (lv_room (Nat.le_of_ble_eq_true rfl)) dX11_diagnostic_78 ⟨by rw [hRc]; omega, by rw [hRs]; omega⟩) hh_98.1 (fun q _ h => h) (fun q h => h) (fun u_99 t_99 H_99 locs_99 ht_99 hvm_99 hr_100 hb_99 hz_99 hk_99 hS_99 => ?_)
    obtain ⟨qc_99, qa_99, m_qa_99, G_99⟩ := u_99
    rw [ht_99] at hb_99
    simp only at hb_99
    obtain ⟨⟨hb_991, hb_992, hb_993, hb_994, hb_995, hb_996⟩, hgq_99_0, hN_99, hbO_99⟩ := hb_99
    have hy_101 := hh_98.iv 0 rfl
    have hh_99 : jSt (dC, dI) B base G0 G_99 EX11_diagnostic s.heap (((m_qa_84 - n_pa) / 16) + ((m_qa_99 - m_qa_84) / 16)) ((2 * (m_qa_84 - n_pa)) + (2 * (m_qa_99 - m_qa_84))) [(bo, 2, 1, .int qc_99), (bo, 2, 0, .ref qa_99), (el_78, 11, 2, .int fault_81), (r1, 3, 6, .ref ends_47), (r1, 3, 5, .ref starts_17), (r0, 13, 4, .ref bo), (r1, 3, 9, .ref bh)] [] [([(210, 0)], jQc dC dI (ca 6) bh 40 fq)] H_99 locs_99 := (hh_98.callG hb_991 hb_992 hb_993 hb_994 hb_995 hS_99 rfl (L1 := [(el_78, 11, 2, .int fault_81), (r1, 3, 6, .ref ends_47), (r1, 3, 5, .ref starts_17), (r0, 13, 4, .ref bo), (r1, 3, 9, .ref bh)]) [2, 3, 4, 5, 6] rfl rfl (M1 := []) [] rfl rfl (I1 := [([(210, 0)], jQc dC dI (ca 6) bh 40 fq)]) [2] rfl rfl).more hb_996
    have hNn_99 : (jNk [0, 1, 2, 3, 4, 5, 6, 7, 8, 9, 10, 11, 12, 13, 14, 15, 16, 17, 175]) G0 G_99 := (hNn_84).tr hN_99
    have hg_102 := hb_992 _ _ hg_87
    have hg_103 := hb_992 _ _ hg_88
    have hg_104 := hb_992 _ _ hg_89
    have hg_105 := hb_992 _ _ hg_90
    have hg_106 := hb_992 _ _ hg_91
    have hg_107 := hb_992 _ _ hg_92
    have hd_109 := jOl.trO (hh_98.iv 1 rfl) hh_98.2.2.2.2.1 hbO_99 (by simp)
    have hh_110 := hh_99.addI (jOl.ie (dC := dC) (dI := dI) (G0 := G0) (k := 2) (rs := [bo]) (H0 := s.heap) (F := [(2, 0), (2, 1)]) (C := RX0) (T := TX0) (N := 2) rfl (by decide) hh_99.2.2.2.2.1 (hd_109))
    clear hh_99
    have hyp_99 : qc_99.toInt ≤ (m_qa_99 : Nat) ∧ m_qa_99 ≤ 1048576 := by (try simp only at hr_100); omega
    have hy_111 := jYb.own hy_101 hbO_99 hb_992 hN_99 (by decide) (fun _ => ⟨_, _, _, hh_110.at 0 rfl, hh_110.at 1 rfl, hgq_99_0, hyp_99⟩)
    have hh_112 := hh_110.addI (jYb.ie hy_111)
    clear hh_110
    try simp only at hr_100
    obtain ⟨hr_100_0, hr_100_1, hr_100_2, hr_100_3, hr_100_4⟩ := hr_100
    have hh_113 := hh_112.wk (zc1 := (m_qa_99 - n_pa) / 16) (zs1 := 2 * (m_qa_99 - n_pa)) (by omega) (by omega)
    clear hh_112
    try clear hsz_99 htt_99 hrc_99 hrs_99
    try clear hb_994 hb_995
    have hsz_114 := hh_113.2.2.2.2.2.1
    have htt_114 := hh_113.2.2.2.2.2.2.1
    refine W.room (fun hrc_114 hrs_114 => ?_)
    refine W.widen (k := LC - s.heap.size) (n := LS - jTot s.heap) (by omega) (by omega) ?_
    rw [hQ]
    exact W.vret hx hb hr (fun t ht hW => ⟨⟨(qc_99, qa_99, m_qa_99, G_99), rfl, by (try dsimp only); exact ⟨(by first | omega | rfl | assumption | fail), (by first | omega | rfl | assumption | fail), (by first | omega | rfl | assumption | fail), (by first | omega | rfl | assumption | fail), (by first | assumption | fail | omega)⟩, ⟨hh_113.ra (by first | omega | (simp only; omega)) (by first | omega | (simp only; omega)) (M1 := [(bo, 2, 1, .int qc_99), (bo, 2, 0, .ref qa_99)]) [0, 1] rfl ht, hgq_99_0, hNn_99, by rw [ht]; exact hh_113.iv 1 rfl, by rw [ht]; exact hh_113.2.2.2.2.2.2.2.2.sub (L1 := [(jFy, jYb dC dI G_99)]) [0] rfl⟩⟩, by rw [ht]; try exact hh_113.1.1, fun q h9 hq => by rw [ht]; try exact hh_113.1.2.1 q h9 hq⟩) hh_113.1.2.2 dX11_diagnostic_81
end
section
-- how many digits a number has, as they are written one by one
theorem jb_lremz {x d : Int64} (e : d = x - x / 10 * 10) : x.toInt ≠ 0 ∨ d.toInt = 0 := by
  by_cases h : x.toInt = 0
  · right
    have hx : x = 0 := Int64.toInt_inj.mp (by rw [h]; rfl)
    rw [e, hx]; decide
  · exact Or.inl h
end
section
def EX0_putF : List (Nat × Nat) := [(2, 1), (196, 0)]
def EX0_textF : List (Nat × Nat) := [(2, 1), (196, 0)]
def EX0_appendF : List (Nat × Nat) := [(2, 1), (196, 0)]
def EX0_numberF : List (Nat × Nat) := [(2, 1), (196, 0)]
set_option maxHeartbeats 4000000 in
set_option maxRecDepth 20000 in
theorem uX0_putF (l : Launch) (dC : Nat → ClassId) (dI : Nat → Nat → Nat) (ca : Nat → ClassId) (base : Nat) (B : jF) (hB : jBok B) (hAp : jAp (dC, dI)) (hB2 : ∀ n G a H, B 2 n G a H ↔ jOb (dC, dI) 2 2 (F2 n G) a H) (hB196 : ∀ n G a H, B 196 n G a H ↔ jAr (dC, dI) (ca 0) (fun j z => jBf j z) n a H) (G0 : jT) (H0 : Heap) (r0 : Nat) (a1 : Int32) (n0 : Nat) (pc : Int32) (pa : Nat) (n_pa : Nat) : Met l yX0_put (jw yX0_put cX0_put 2 none) ({ frames := 2, cells := 0, slots := 0, locals := 62 }) (va_Pc [.ref r0, .int a1] (fun U => U.heap = H0 ∧ jX B base G0 [] H0 ∧ jG dC dI ca base U ∧ G0 r0 = some (2, n0) ∧ G0 pa = some (196, n_pa) ∧ jP (dC, dI) G0 H0 [(r0, 2, 1, .int pc), (r0, 2, 0, .ref pa)] ∧ 1 ≤ n0 ∧ n0 ≤ 20000 ∧ 0 ≤ pc.toInt ∧ n_pa = n0 ∧ pc.toInt < n0)) (va_Qv (S := Int32) (fun u => u.toInt = pc.toInt + 1) (fun u t => (jRt (dC, dI) B base G0 EX0_putF H0 [(r0, 2, 1, .int u)] t.heap) ∧ jOw (dC, dI) G0 2 r0 H0 t.heap) (jA base)) 0 0 (jA base) := by
  refine Met.ofW (cc := cX0_put) (maxL := 2) (ret := none) (by decide) rfl ?_
  intro p e s m args below meth c s₁ Bd hml hv
  obtain ⟨rfl, hH0, hX, hG, hg_r0, hg_pa, hP0, hp0, hp1, hp2, hp3, hp4⟩ := hv
  have hK := hG.1
  have hx := Bd.exec
  have hb := Bd.bytes
  have hr := Bd.returns
  have hts := atoms_spec (ws := (jw yX0_put cX0_put 2 none)) Bd.pre
  have htw : ∀ w ∈ jWl, w.before _ s = true := fun w h => hts w (List.mem_cons_of_mem _ h)
  have hown : s.vm.findClass RX0 = some m.cls := findClass_of_methodNamed Bd.named
  have hlocks := Bd.notSynchronized
  obtain ⟨Q, hQ⟩ : ∃ Q, Q = MQ below (va_Qv (S := Int32) (fun u => u.toInt = pc.toInt + 1) (fun u t => (jRt (dC, dI) B base G0 EX0_putF H0 [(r0, 2, 1, .int u)] t.heap) ∧ jOw (dC, dI) G0 2 r0 H0 t.heap) (jA base)) ([.ref r0, .int a1] : List Value).toArray s 0 0 (jA base) := ⟨_, rfl⟩
  rw [← hQ]
  have hl := lv_entry ([.ref r0, .int a1]) (n := 2) (Nat.le_of_ble_eq_true rfl)
  rw [lg_entry_eq]
  generalize (lg_sl ([.ref r0, .int a1]) ++ List.replicate (2 - (lg_sl ([.ref r0, .int a1])).length) Slot.unset).toArray = ls at hl ⊢
  have hl : lv_has ls 2 [(0, .ref r0), (1, .int a1)] := hl
  generalize hR : (headSpec (jw yX0_put cX0_put 2 none) ({ frames := 2, cells := 0, slots := 0, locals := 62 })).room = R
  subst hH0
  have hh : jSt (dC, dI) B base G0 G0 EX0_putF s.heap 0 0 [(r0, 2, 1, .int pc), (r0, 2, 0, .ref pa)] [] [] s.heap [] := jSt.start hX hP0 jMc.nil jIs.nil
  clear hX hP0
  have hk0 : (0 : Int32).toInt = 0 := by decide
  have hk1 : (1 : Int32).toInt = 1 := by decide
  have hk2 : (2 : Int32).toInt = 2 := by decide
  have hk1000000 : (1000000 : Int32).toInt = 1000000 := by decide
  have hly_2_0 := htw (u_lay RX0 TX0 0) (jWc_wsX00 _ (u_in_lay (by decide)))
  have hly_2_1 := htw (u_lay RX0 TX0 1) (jWc_wsX00 _ (u_in_lay (by decide)))
  have hlk_19 := (htw (.fieldLink RX0 19 "ProofServer$Bytes" "count" "I") (jWr_16 _ (List.mem_of_getElem? (i := 3) rfl)))
  have hlk_13 := (htw (.fieldLink RX0 13 "ProofServer$Bytes" "row" "[B") (jWr_3 _ (List.mem_of_getElem? (i := 10) rfl)))
  have hcs_23 := htw (.constant RX0 23 1000000) (jWr_16 _ (List.mem_of_getElem? (i := 4) rfl))
  have hrg_a1 := jb_rng a1
  have hh_1 := hh.addI (jOw.ie (dC := dC) (dI := dI) (G0 := G0) (k := 2) (r := r0) (H0 := s.heap) (F := [(2, 0), (2, 1)]) (C := RX0) (T := TX0) (N := 2) rfl (by decide) hh.2.2.2.2.1 (jOw.rf))
  clear hh
  refine lv_aload_n hx hb dX0_put_0 rfl (lv_at hl 0 rfl) ?_
  refine j7_read hx hb hown hK (C := RX0) (T := TX0) (N := 2) rfl hly_2_1 hlk_19 (hh_1.at 0 rfl) dX0_put_1 ?_
  refine lv_aload_n hx hb dX0_put_4 rfl (lv_at hl 0 rfl) ?_
  refine j7_read hx hb hown hK (C := RX0) (T := TX0) (N := 2) rfl hly_2_0 hlk_13 (hh_1.at 1 rfl) dX0_put_5 ?_
  refine j7_len hx hb hK hh_1 hB196 0 rfl (by decide) hg_pa (by omega) dX0_put_8 (fun z_2 hz_2 => ?_)
  refine lv_icmp_lt (tgt := 39) hx hb dX0_put_9 (by decide) (fun c_3 => ?_) (fun c_3 => ?_)
  · skip
    have c_3' : pc.toInt < z_2.toInt := jb_lt (rfl) (rfl) c_3
    refine lv_aload_n hx hb dX0_put_39 rfl (lv_at hl 0 rfl) ?_
    refine j7_read hx hb hown hK (C := RX0) (T := TX0) (N := 2) rfl hly_2_1 hlk_19 (hh_1.at 0 rfl) dX0_put_40 ?_
    refine lv_if_lt (tgt := 79) hx hb dX0_put_43 (by decide) (fun c_4 => ?_) (fun c_4 => ?_)
    · skip
      have c_4' : pc.toInt < 0 := jb_lt (rfl) ((by decide)) c_4
      exact absurd c_4' (by omega)
    · skip
      have c_4' : pc.toInt ≥ 0 := jb_lt_n (rfl) ((by decide)) c_4
      refine lv_aload_n hx hb dX0_put_46 rfl (lv_at hl 0 rfl) ?_
      refine j7_read hx hb hown hK (C := RX0) (T := TX0) (N := 2) rfl hly_2_1 hlk_19 (hh_1.at 0 rfl) dX0_put_47 ?_
      refine lv_aload_n hx hb dX0_put_50 rfl (lv_at hl 0 rfl) ?_
      refine j7_read hx hb hown hK (C := RX0) (T := TX0) (N := 2) rfl hly_2_0 hlk_13 (hh_1.at 1 rfl) dX0_put_51 ?_
      refine j7_len hx hb hK hh_1 hB196 0 rfl (by decide) hg_pa (by omega) dX0_put_54 (fun z_5 hz_5 => ?_)
      refine lv_icmp_ge (tgt := 79) hx hb dX0_put_55 (by decide) (fun c_6 => ?_) (fun c_6 => ?_)
      · skip
        have c_6' : pc.toInt ≥ z_5.toInt := jb_ge (rfl) (rfl) c_6
        exact absurd c_6' (by omega)
      · skip
        have c_6' : pc.toInt < z_5.toInt := jb_ge_n (rfl) (rfl) c_6
        refine lv_aload_n hx hb dX0_put_58 rfl (lv_at hl 0 rfl) ?_
        refine j7_read hx hb hown hK (C := RX0) (T := TX0) (N := 2) rfl hly_2_0 hlk_13 (hh_1.at 1 rfl) dX0_put_59 ?_
        refine lv_aload_n hx hb dX0_put_62 rfl (lv_at hl 0 rfl) ?_
        refine j7_read hx hb hown hK (C := RX0) (T := TX0) (N := 2) rfl hly_2_1 hlk_19 (hh_1.at 0 rfl) dX0_put_63 ?_
        refine lv_iload_n hx hb dX0_put_66 rfl (lv_at hl 1 rfl) ?_
        refine lv_i2b hx hb dX0_put_67 rfl ?_
        refine lv_topi (fun z_7 ez_7 => ?_)
        refine j7_bastF hx hb hK hh_1 hB hB196 0 rfl (by decide) (by decide) rfl rfl rfl hg_pa (x := pc.toInt) (rfl) (by omega) dX0_put_68 (fun H_8 locs_8 hh_8 => ?_)
        clear hh_1
        refine lv_aload_n hx hb dX0_put_69 rfl (lv_at hl 0 rfl) ?_
        refine lv_dup hx hb dX0_put_70 rfl ?_
        refine j7_read hx hb hown hK (C := RX0) (T := TX0) (N := 2) rfl hly_2_1 hlk_19 (hh_8.at 0 rfl) dX0_put_71 ?_
        refine lv_iconst (v := 1) hx hb dX0_put_74 (by decide) ?_
        refine lv_iadd hx hb dX0_put_75 ?_
        refine lv_topi (fun z_9 ez_9 => ?_)
        have hz_9 : z_9.toInt = pc.toInt + 1 := by rw [ez_9]; exact jb_iadd2 (rfl) ((by decide)) (by omega)
        have hd_11 := hh_8.iv 0 rfl
        have hh_12 := hh_8.sub (L1 := [(r0, 2, 1, .int pc), (r0, 2, 0, .ref pa)]) [0, 1] rfl (M1 := []) [] rfl (I1 := []) [] rfl
        clear hh_8
        refine j7_putX hx hb hown hK hh_12 hB hAp hB2 (C := RX0) (T := TX0) (N := 2) rfl (by decide) hg_r0 (i := 1) (by decide) hly_2_1 rfl hlk_19 rfl (ty := .int) (v := .int z_9) (by decide +kernel) rfl rfl (⟨_, rfl, by omega, by omega, by omega⟩) rfl (L1 := [(r0, 2, 0, .ref pa)]) [1] rfl rfl rfl dX0_put_76 (fun H_10 locs_10 hr_10 hh_10 => ?_)
        clear hh_12
        have hd_11n := jOw.put hd_11 hr_10
        have hh_13 := hh_10.addI (jOw.ie (dC := dC) (dI := dI) (G0 := G0) (k := 2) (r := r0) (H0 := s.heap) (F := [(2, 0), (2, 1)]) (C := RX0) (T := TX0) (N := 2) rfl (by decide) hh_10.2.2.2.2.1 (hd_11n))
        clear hh_10
        clear hd_11 hd_11n hr_10
        rw [hQ]
        exact W.vret hx hb hr (fun t ht hW => ⟨⟨z_9, rfl, by first | omega | rfl | assumption | decide | exact Or.inl rfl | exact Or.inr rfl | (simp only; omega), ⟨hh_13.rt (M1 := [(r0, 2, 1, .int z_9)]) [0] rfl ht, by rw [ht]; exact hh_13.iv 0 rfl⟩⟩, by rw [ht]; try exact hh_13.1.1, fun q h9 hq => by rw [ht]; try exact hh_13.1.2.1 q h9 hq⟩) hh_13.1.2.2 dX0_put_79
  · skip
    have c_3' : pc.toInt ≥ z_2.toInt := jb_lt_n (rfl) (rfl) c_3
    exact absurd c_3' (by omega)
set_option maxHeartbeats 4000000 in
set_option maxRecDepth 20000 in
theorem uX0_textF (l : Launch) (dC : Nat → ClassId) (dI : Nat → Nat → Nat) (ca : Nat → ClassId) (base : Nat) (B : jF) (hB : jBok B) (hAp : jAp (dC, dI)) (hB2 : ∀ n G a H, B 2 n G a H ↔ jOb (dC, dI) 2 2 (F2 n G) a H) (hB196 : ∀ n G a H, B 196 n G a H ↔ jAr (dC, dI) (ca 0) (fun j z => jBf j z) n a H) (G0 : jT) (H0 : Heap) (r0 : Nat) (r1 : Nat) (n1 : Nat) (n0 : Nat) (pc : Int32) (pa : Nat) (n_pa : Nat) : Met l yX0_text (jw yX0_text cX0_text 3 none) ({ frames := 4, cells := 0, slots := 0, locals := 141 }) (va_Pc [.ref r0, .ref r1] (fun U => U.heap = H0 ∧ jX B base G0 [] H0 ∧ jG dC dI ca base U ∧ jStr base r1 n1 U H0 ∧ G0 r0 = some (2, n0) ∧ G0 pa = some (196, n_pa) ∧ jP (dC, dI) G0 H0 [(r0, 2, 1, .int pc), (r0, 2, 0, .ref pa)] ∧ 1 ≤ n0 ∧ n0 ≤ 20000 ∧ 0 ≤ pc.toInt ∧ n_pa = n0 ∧ pc.toInt + n1 ≤ n0)) (va_Qv (S := Int32) (fun u => u.toInt = pc.toInt + n1) (fun u t => (jRt (dC, dI) B base G0 EX0_textF H0 [(r0, 2, 1, .int u)] t.heap) ∧ jOw (dC, dI) G0 2 r0 H0 t.heap) (jA base)) 0 0 (jA base) := by
  refine Met.ofW (cc := cX0_text) (maxL := 3) (ret := none) (by decide) rfl ?_
  intro p e s m args below meth c s₁ Bd hml hv
  obtain ⟨rfl, hH0, hX, hG, hstr_r1, hg_r0, hg_pa, hP0, hp0, hp1, hp2, hp3, hp4⟩ := hv
  have hK := hG.1
  have hx := Bd.exec
  have hb := Bd.bytes
  have hr := Bd.returns
  have hts := atoms_spec (ws := (jw yX0_text cX0_text 3 none)) Bd.pre
  have htw : ∀ w ∈ jWl, w.before _ s = true := fun w h => hts w (List.mem_cons_of_mem _ h)
  have hown : s.vm.findClass RX0 = some m.cls := findClass_of_methodNamed Bd.named
  have hlocks := Bd.notSynchronized
  obtain ⟨Q, hQ⟩ : ∃ Q, Q = MQ below (va_Qv (S := Int32) (fun u => u.toInt = pc.toInt + n1) (fun u t => (jRt (dC, dI) B base G0 EX0_textF H0 [(r0, 2, 1, .int u)] t.heap) ∧ jOw (dC, dI) G0 2 r0 H0 t.heap) (jA base)) ([.ref r0, .ref r1] : List Value).toArray s 0 0 (jA base) := ⟨_, rfl⟩
  rw [← hQ]
  have hl := lv_entry ([.ref r0, .ref r1]) (n := 3) (Nat.le_of_ble_eq_true rfl)
  rw [lg_entry_eq]
  generalize (lg_sl ([.ref r0, .ref r1]) ++ List.replicate (3 - (lg_sl ([.ref r0, .ref r1])).length) Slot.unset).toArray = ls at hl ⊢
  have hl : lv_has ls 3 [(0, .ref r0), (1, .ref r1)] := hl
  generalize hR : (headSpec (jw yX0_text cX0_text 3 none) ({ frames := 4, cells := 0, slots := 0, locals := 141 })).room = R
  subst hH0
  have hh : jSt (dC, dI) B base G0 G0 EX0_textF s.heap 0 0 [(r0, 2, 1, .int pc), (r0, 2, 0, .ref pa)] [] [] s.heap [] := jSt.start hX hP0 jMc.nil jIs.nil
  clear hX hP0
  have hk0 : (0 : Int32).toInt = 0 := by decide
  have hk1 : (1 : Int32).toInt = 1 := by decide
  have hh_1 := hh.addI (jOw.ie (dC := dC) (dI := dI) (G0 := G0) (k := 2) (r := r0) (H0 := s.heap) (F := [(2, 0), (2, 1)]) (C := RX0) (T := TX0) (N := 2) rfl (by decide) hh.2.2.2.2.1 (jOw.rf))
  clear hh
  refine lv_iconst (v := 0) hx hb dX0_text_0 (by decide) ?_
  refine lv_istore_n (lv' := [(2, .int 0), (0, .ref r0), (1, .ref r1)]) hx hb dX0_text_1 rfl hl (by decide) rfl (fun ls hl => ?_)
  have L2 : ∀ (N : Nat) (v2_2 : Int32) (wc_2 : Int32) (H_2 : Heap) (locs_2 : List Loc), jSt (dC, dI) B base G0 G0 EX0_textF s.heap 0 0 [(r0, 2, 1, .int wc_2), (r0, 2, 0, .ref pa)] [] [([(2, 0), (2, 1)], jOw (dC, dI) G0 2 r0 s.heap)] H_2 locs_2 → (0 ≤ v2_2.toInt ∧ v2_2.toInt ≤ n1 ∧ wc_2.toInt = pc.toInt + v2_2.toInt) → (n1 - v2_2.toInt : Int) < N → ∀ ls : Array Slot, lv_has ls 3 [(0, .ref r0), (1, .ref r1), (2, .int v2_2)] → W p l e R s m ([.ref r0, .ref r1] : List Value).toArray below meth c H_2 locs_2 0 0 Q (F0 m 2 ls []) := by
    intro N
    induction N with
    | zero => intro v2_2 wc_2 H_2 locs_2 hh_2  hi_2 hm; exact absurd hm (by omega)
    | succ N L2 =>
      intro v2_2 wc_2 H_2 locs_2 hh_2  hi_2 hm_2 ls hl
      obtain ⟨hi_2_0, hi_2_1, hi_2_2⟩ := hi_2
      refine lv_iload_n hx hb dX0_text_2 rfl (lv_at hl 2 rfl) ?_
      refine lv_aload_n hx hb dX0_text_3 rfl (lv_at hl 1 rfl) ?_
      refine vp_callSi (W.runV (As := []) (rest := [.int v2_2]) ⟨hx, hb, hml, hown, hts⟩ (wJ0_length_8abf5 l dC dI ca base H_2 r1 n1) (cwV 0 hts (jgV (jWr_26 _ (List.mem_of_getElem? (i := 1) rfl)) (jWr_5 _ (List.mem_of_getElem? (i := 13) rfl)) (jWr_5 _ (List.mem_of_getElem? (i := 14) rfl)) (jWr_5 _ (List.mem_of_getElem? (i := 15) rfl)) (jWr_5 _ (List.mem_of_getElem? (i := 16) rfl))) rfl rfl rfl (by decide +kernel) ⟨by rw [← hR]; exact Nat.le_of_ble_eq_true rfl, by rw [← hR]; exact Nat.le_of_ble_eq_true rfl⟩) ⟨fun a U g mk q => by obtain ⟨q0, q1, q2, qK, q9⟩ := q; exact ⟨q0, q1, (q2.moved (Vm.Alike.refl U.vm)), jG.calling g mk a qK, q9⟩, jStr_recv hstr_r1 hh_2.1, fun U hU hW => ⟨rfl, hU, (hstr_r1.moved hW.alike).kept hh_2.1.2.1, hG.step hW hU hh_2.1, by omega⟩⟩ rfl rfl hl.1 rfl (lv_room (Nat.le_of_ble_eq_true rfl)) dX0_text_4 ⟨Nat.zero_le _, Nat.zero_le _⟩) (fun r_3 hr_3 => ?_)
      refine lv_icmp_ge (tgt := 25) hx hb dX0_text_7 (by decide) (fun c_4 => ?_) (fun c_4 => ?_)
      · skip
        have c_4' : v2_2.toInt ≥ r_3.toInt := jb_ge (rfl) (rfl) c_4
        rw [hQ]
        exact W.vret hx hb hr (fun t ht hW => ⟨⟨wc_2, rfl, by first | omega | rfl | assumption | decide | exact Or.inl rfl | exact Or.inr rfl | (simp only; omega), ⟨hh_2.rt (M1 := [(r0, 2, 1, .int wc_2)]) [0] rfl ht, by rw [ht]; exact hh_2.iv 0 rfl⟩⟩, by rw [ht]; try exact hh_2.1.1, fun q h9 hq => by rw [ht]; try exact hh_2.1.2.1 q h9 hq⟩) hh_2.1.2.2 dX0_text_25
      · skip
        have c_4' : v2_2.toInt < r_3.toInt := jb_ge_n (rfl) (rfl) c_4
        refine lv_aload_n hx hb dX0_text_10 rfl (lv_at hl 0 rfl) ?_
        refine lv_aload_n hx hb dX0_text_11 rfl (lv_at hl 1 rfl) ?_
        refine lv_iload_n hx hb dX0_text_12 rfl (lv_at hl 2 rfl) ?_
        refine vp_callSi (W.runV (As := [.int v2_2]) (rest := [.ref r0]) ⟨hx, hb, hml, hown, hts⟩ (wJ0_charAt_5068e l dC dI ca base H_2 r1 n1 v2_2) (cwV 1 hts (jgV (jWr_26 _ (List.mem_of_getElem? (i := 2) rfl)) (jWr_6 _ (List.mem_of_getElem? (i := 1) rfl)) (jWr_6 _ (List.mem_of_getElem? (i := 2) rfl)) (jWr_5 _ (List.mem_of_getElem? (i := 15) rfl)) (jWr_6 _ (List.mem_of_getElem? (i := 3) rfl))) rfl rfl rfl (by decide +kernel) ⟨by rw [← hR]; exact Nat.le_of_ble_eq_true rfl, by rw [← hR]; exact Nat.le_of_ble_eq_true rfl⟩) ⟨fun a U g mk q => by obtain ⟨q0, q1, q2, qK, q9⟩ := q; exact ⟨q0, q1, (q2.moved (Vm.Alike.refl U.vm)), jG.calling g mk a qK, q9⟩, jStr_recv hstr_r1 hh_2.1, fun U hU hW => ⟨rfl, hU, (hstr_r1.moved hW.alike).kept hh_2.1.2.1, hG.step hW hU hh_2.1, ⟨by omega, by omega, by omega⟩⟩⟩ rfl rfl hl.1 rfl (lv_room (Nat.le_of_ble_eq_true rfl)) dX0_text_13 ⟨Nat.zero_le _, Nat.zero_le _⟩) (fun r_5 hr_5 => ?_)
        refine va_callv (A0 := jA base) (H0 := s.heap) (va_runV (As := [.int r_5]) (rest := []) ⟨hx, hb, hml, hown, hts⟩ (uX0_putF l dC dI ca base B hB hAp hB2 hB196 G0 H_2 r0 r_5 n0 wc_2 pa n_pa) (cwV 1 hts (jgV (jWr_24 _ (List.mem_of_getElem? (i := 22) rfl)) (jWr_16 _ (List.mem_of_getElem? (i := 0) rfl)) (jWr_16 _ (List.mem_of_getElem? (i := 1) rfl)) (jWr_1 _ (List.mem_of_getElem? (i := 14) rfl)) (jWr_16 _ (List.mem_of_getElem? (i := 2) rfl))) rfl rfl rfl (by decide +kernel) ⟨by rw [← hR]; exact Nat.le_of_ble_eq_true rfl, by rw [← hR]; exact Nat.le_of_ble_eq_true rfl⟩) ⟨fun a U g mk q => by obtain ⟨q0, q1, q2, qK, q10, q11, q12, q13⟩ := q; exact ⟨q0, q1, q2, jG.calling g mk a qK, q10, q11, q12, q13⟩, hh_2.recv (C := RX0) (T := TX0) (N := 2) hB2 rfl (by decide) hg_r0 hK, fun U hU hW => ⟨rfl, hU, hh_2.2.1, hG.step hW hU hh_2.1, hg_r0, hg_pa, (hh_2.2.2.1.sub (L1 := [(r0, 2, 1, .int wc_2), (r0, 2, 0, .ref pa)]) [0, 1] rfl), by first | omega | (refine ⟨?_, ?_, ?_, ?_, ?_⟩ <;> (first | omega | rfl | assumption | decide | exact Or.inl rfl | exact Or.inr rfl | (simp only; omega)))⟩⟩ rfl rfl hl.1 rfl (lv_room (Nat.le_of_ble_eq_true rfl)) dX0_text_16 ⟨Nat.zero_le _, Nat.zero_le _⟩) hh_2.1 (fun q _ h => h) (fun q h => h) (fun u_6 t_6 H_6 locs_6 ht_6 hvm_6 hr_7 hb_6 hz_6 hk_6 hS_6 => ?_)
        obtain ⟨qc_6, rfl⟩ : ∃ z, z = u_6 := ⟨_, rfl⟩
        rw [ht_6] at hb_6
        obtain ⟨hb_6, hbO_6⟩ := hb_6
        obtain ⟨hb_61, hb_62, hb_63, hb_64, hb_65⟩ := hb_6
        have hh_6 : jSt (dC, dI) B base G0 G0 EX0_textF s.heap 0 0 [(r0, 2, 1, .int qc_6), (r0, 2, 0, .ref pa)] [] [] H_6 locs_6 := ((hh_2.call hb_61 hb_62 hb_63 hb_64 hS_6 rfl (L1 := [(r0, 2, 0, .ref pa)]) [1] rfl rfl (M1 := []) [] rfl rfl (I1 := []) [] rfl rfl).more hb_65)
        have hd_8 := jOw.tr (hh_2.iv 0 rfl) hh_2.2.2.2.2.1 hbO_6
        have hh_9 := hh_6.addI (jOw.ie (dC := dC) (dI := dI) (G0 := G0) (k := 2) (r := r0) (H0 := s.heap) (F := [(2, 0), (2, 1)]) (C := RX0) (T := TX0) (N := 2) rfl (by decide) hh_6.2.2.2.2.1 (hd_8))
        clear hh_6
        clear hh_2 ht_6 hvm_6 hz_6 hk_6 hS_6 hb_61 hb_62 hb_63 hb_64 hb_65
        obtain ⟨z_10, ez_10⟩ : ∃ y : Int32, y = v2_2 + 1 := ⟨_, rfl⟩
        refine lv_iinc (v := z_10) (lv' := [(2, .int z_10), (0, .ref r0), (1, .ref r1)]) hx hb dX0_text_19 hl (k := 2) rfl (by rw [ez_10]; rfl) (by decide) rfl (fun ls hl => ?_)
        have hz_10 : z_10.toInt = v2_2.toInt + 1 := by rw [ez_10]; exact jb_iadd2 (rfl) (by decide) (by omega)
        refine lv_goto (tgt := 2) hx hb dX0_text_22 (by decide) ?_
        exact L2 z_10 qc_6 _ _ hh_9 (by first | omega | (refine ⟨?_, ?_, ?_⟩ <;> (first | omega | rfl | assumption | decide | exact Or.inl rfl | exact Or.inr rfl | (simp only; omega)))) (by omega) _ (lv_sub hl [1, 2, 0] rfl)
  exact L2 (n1 - (0 : Int32).toInt : Int).toNat.succ 0 pc _ _ hh_1 (by first | omega | (refine ⟨?_, ?_, ?_⟩ <;> (first | omega | rfl | assumption | decide | exact Or.inl rfl | exact Or.inr rfl | (simp only; omega)))) (by omega) _ (lv_sub hl [1, 2, 0] rfl)
set_option maxHeartbeats 4000000 in
set_option maxRecDepth 20000 in
theorem uX0_appendF (l : Launch) (dC : Nat → ClassId) (dI : Nat → Nat → Nat) (ca : Nat → ClassId) (base : Nat) (B : jF) (hB : jBok B) (hAp : jAp (dC, dI)) (hB2 : ∀ n G a H, B 2 n G a H ↔ jOb (dC, dI) 2 2 (F2 n G) a H) (hB17 : ∀ n G a H, B 17 n G a H ↔ jOb (dC, dI) 17 2 (F17 n G) a H) (hB196 : ∀ n G a H, B 196 n G a H ↔ jAr (dC, dI) (ca 0) (fun j z => jBf j z) n a H) (hB199 : ∀ n G a H, B 199 n G a H ↔ jAr (dC, dI) (ca 0) (fun j z => jBf j z) n a H) (G0 : jT) (H0 : Heap) (r0 : Nat) (r1 : Nat) (n0 : Nat) (pc : Int32) (pa : Nat) (n_pa : Nat) (pd : Int32) (pr : Nat) (n_pr : Nat) : Met l yX0_append (jw yX0_append cX0_append 3 none) ({ frames := 3, cells := 0, slots := 0, locals := 83 }) (va_Pc [.ref r0, .ref r1] (fun U => U.heap = H0 ∧ jX B base G0 [] H0 ∧ jG dC dI ca base U ∧ G0 r0 = some (2, n0) ∧ G0 r1 = some (2, 0) ∧ G0 pa = some (196, n_pa) ∧ G0 pr = some (196, n_pr) ∧ jP (dC, dI) G0 H0 [(r0, 2, 1, .int pc), (r0, 2, 0, .ref pa), (r1, 2, 1, .int pd), (r1, 2, 0, .ref pr)] ∧ 1 ≤ n0 ∧ n0 ≤ 20000 ∧ 0 ≤ pc.toInt ∧ n_pa = n0 ∧ 0 ≤ pd.toInt ∧ pd.toInt ≤ n_pr ∧ n_pr ≤ 1048576 ∧ pc.toInt + pd.toInt ≤ n0)) (va_Qv (S := Int32) (fun u => u.toInt = pc.toInt + pd.toInt) (fun u t => (jRt (dC, dI) B base G0 EX0_appendF H0 [(r0, 2, 1, .int u)] t.heap) ∧ jOw (dC, dI) G0 2 r0 H0 t.heap) (jA base)) 0 0 (jA base) := by
  refine Met.ofW (cc := cX0_append) (maxL := 3) (ret := none) (by decide) rfl ?_
  intro p e s m args below meth c s₁ Bd hml hv
  obtain ⟨rfl, hH0, hX, hG, hg_r0, hg_r1, hg_pa, hg_pr, hP0, hp0, hp1, hp2, hp3, hp4, hp5, hp6, hp7⟩ := hv
  have hK := hG.1
  have hx := Bd.exec
  have hb := Bd.bytes
  have hr := Bd.returns
  have hts := atoms_spec (ws := (jw yX0_append cX0_append 3 none)) Bd.pre
  have htw : ∀ w ∈ jWl, w.before _ s = true := fun w h => hts w (List.mem_cons_of_mem _ h)
  have hown : s.vm.findClass RX0 = some m.cls := findClass_of_methodNamed Bd.named
  have hlocks := Bd.notSynchronized
  obtain ⟨Q, hQ⟩ : ∃ Q, Q = MQ below (va_Qv (S := Int32) (fun u => u.toInt = pc.toInt + pd.toInt) (fun u t => (jRt (dC, dI) B base G0 EX0_appendF H0 [(r0, 2, 1, .int u)] t.heap) ∧ jOw (dC, dI) G0 2 r0 H0 t.heap) (jA base)) ([.ref r0, .ref r1] : List Value).toArray s 0 0 (jA base) := ⟨_, rfl⟩
  rw [← hQ]
  have hl := lv_entry ([.ref r0, .ref r1]) (n := 3) (Nat.le_of_ble_eq_true rfl)
  rw [lg_entry_eq]
  generalize (lg_sl ([.ref r0, .ref r1]) ++ List.replicate (3 - (lg_sl ([.ref r0, .ref r1])).length) Slot.unset).toArray = ls at hl ⊢
  have hl : lv_has ls 3 [(0, .ref r0), (1, .ref r1)] := hl
  generalize hR : (headSpec (jw yX0_append cX0_append 3 none) ({ frames := 3, cells := 0, slots := 0, locals := 83 })).room = R
  subst hH0
  have hh : jSt (dC, dI) B base G0 G0 EX0_appendF s.heap 0 0 [(r0, 2, 1, .int pc), (r0, 2, 0, .ref pa), (r1, 2, 1, .int pd), (r1, 2, 0, .ref pr)] [] [] s.heap [] := jSt.start hX hP0 jMc.nil jIs.nil
  clear hX hP0
  have hk0 : (0 : Int32).toInt = 0 := by decide
  have hk1 : (1 : Int32).toInt = 1 := by decide
  have hly_2_0 := htw (u_lay RX0 TX0 0) (jWc_wsX00 _ (u_in_lay (by decide)))
  have hly_2_1 := htw (u_lay RX0 TX0 1) (jWc_wsX00 _ (u_in_lay (by decide)))
  have hlk_19 := (htw (.fieldLink RX0 19 "ProofServer$Bytes" "count" "I") (jWr_16 _ (List.mem_of_getElem? (i := 3) rfl)))
  have hlk_13 := (htw (.fieldLink RX0 13 "ProofServer$Bytes" "row" "[B") (jWr_3 _ (List.mem_of_getElem? (i := 10) rfl)))
  have hh_1 := hh.addI (jOw.ie (dC := dC) (dI := dI) (G0 := G0) (k := 2) (r := r0) (H0 := s.heap) (F := [(2, 0), (2, 1)]) (C := RX0) (T := TX0) (N := 2) rfl (by decide) hh.2.2.2.2.1 (jOw.rf))
  clear hh
  refine lv_iconst (v := 0) hx hb dX0_append_0 (by decide) ?_
  refine lv_istore_n (lv' := [(2, .int 0), (0, .ref r0), (1, .ref r1)]) hx hb dX0_append_1 rfl hl (by decide) rfl (fun ls hl => ?_)
  have L2 : ∀ (N : Nat) (v2_2 : Int32) (wc_2 : Int32) (H_2 : Heap) (locs_2 : List Loc), jSt (dC, dI) B base G0 G0 EX0_appendF s.heap 0 0 [(r0, 2, 1, .int wc_2), (r0, 2, 0, .ref pa), (r1, 2, 1, .int pd), (r1, 2, 0, .ref pr)] [] [([(2, 0), (2, 1)], jOw (dC, dI) G0 2 r0 s.heap)] H_2 locs_2 → (0 ≤ v2_2.toInt ∧ v2_2.toInt ≤ pd.toInt ∧ wc_2.toInt = pc.toInt + v2_2.toInt) → (pd.toInt - v2_2.toInt : Int) < N → ∀ ls : Array Slot, lv_has ls 3 [(0, .ref r0), (1, .ref r1), (2, .int v2_2)] → W p l e R s m ([.ref r0, .ref r1] : List Value).toArray below meth c H_2 locs_2 0 0 Q (F0 m 2 ls []) := by
    intro N
    induction N with
    | zero => intro v2_2 wc_2 H_2 locs_2 hh_2  hi_2 hm; exact absurd hm (by omega)
    | succ N L2 =>
      intro v2_2 wc_2 H_2 locs_2 hh_2  hi_2 hm_2 ls hl
      obtain ⟨hi_2_0, hi_2_1, hi_2_2⟩ := hi_2
      refine lv_iload_n hx hb dX0_append_2 rfl (lv_at hl 2 rfl) ?_
      refine lv_aload_n hx hb dX0_append_3 rfl (lv_at hl 1 rfl) ?_
      refine j7_read hx hb hown hK (C := RX0) (T := TX0) (N := 2) rfl hly_2_1 hlk_19 (hh_2.at 2 rfl) dX0_append_4 ?_
      refine lv_icmp_ge (tgt := 35) hx hb dX0_append_7 (by decide) (fun c_3 => ?_) (fun c_3 => ?_)
      · skip
        have c_3' : v2_2.toInt ≥ pd.toInt := jb_ge (rfl) (rfl) c_3
        rw [hQ]
        exact W.vret hx hb hr (fun t ht hW => ⟨⟨wc_2, rfl, by first | omega | rfl | assumption | decide | exact Or.inl rfl | exact Or.inr rfl | (simp only; omega), ⟨hh_2.rt (M1 := [(r0, 2, 1, .int wc_2)]) [0] rfl ht, by rw [ht]; exact hh_2.iv 0 rfl⟩⟩, by rw [ht]; try exact hh_2.1.1, fun q h9 hq => by rw [ht]; try exact hh_2.1.2.1 q h9 hq⟩) hh_2.1.2.2 dX0_append_35
      · skip
        have c_3' : v2_2.toInt < pd.toInt := jb_ge_n (rfl) (rfl) c_3
        refine lv_iload_n hx hb dX0_append_10 rfl (lv_at hl 2 rfl) ?_
        refine lv_aload_n hx hb dX0_append_11 rfl (lv_at hl 1 rfl) ?_
        refine j7_read hx hb hown hK (C := RX0) (T := TX0) (N := 2) rfl hly_2_0 hlk_13 (hh_2.at 3 rfl) dX0_append_12 ?_
        refine j7_len hx hb hK hh_2 hB196 0 rfl (by decide) hg_pr (by omega) dX0_append_15 (fun z_4 hz_4 => ?_)
        refine lv_icmp_ge (tgt := 35) hx hb dX0_append_16 (by decide) (fun c_5 => ?_) (fun c_5 => ?_)
        · skip
          have c_5' : v2_2.toInt ≥ z_4.toInt := jb_ge (rfl) (rfl) c_5
          rw [hQ]
          exact W.vret hx hb hr (fun t ht hW => ⟨⟨wc_2, rfl, by first | omega | rfl | assumption | decide | exact Or.inl rfl | exact Or.inr rfl | (simp only; omega), ⟨hh_2.rt (M1 := [(r0, 2, 1, .int wc_2)]) [0] rfl ht, by rw [ht]; exact hh_2.iv 0 rfl⟩⟩, by rw [ht]; try exact hh_2.1.1, fun q h9 hq => by rw [ht]; try exact hh_2.1.2.1 q h9 hq⟩) hh_2.1.2.2 dX0_append_35
        · skip
          have c_5' : v2_2.toInt < z_4.toInt := jb_ge_n (rfl) (rfl) c_5
          refine lv_aload_n hx hb dX0_append_19 rfl (lv_at hl 0 rfl) ?_
          refine lv_aload_n hx hb dX0_append_20 rfl (lv_at hl 1 rfl) ?_
          refine j7_read hx hb hown hK (C := RX0) (T := TX0) (N := 2) rfl hly_2_0 hlk_13 (hh_2.at 3 rfl) dX0_append_21 ?_
          refine lv_iload_n hx hb dX0_append_24 rfl (lv_at hl 2 rfl) ?_
          refine j7_bald hx hb hK hh_2 hB196 0 rfl (by decide) hg_pr (x := v2_2.toInt) (rfl) (by omega) dX0_append_25 (fun z_6 (hz_6 : jBf (v2_2.toInt).toNat z_6) => ?_)
          refine va_callv (A0 := jA base) (H0 := s.heap) (va_runV (As := [.int z_6]) (rest := []) ⟨hx, hb, hml, hown, hts⟩ (uX0_putF l dC dI ca base B hB hAp hB2 hB196 G0 H_2 r0 z_6 n0 wc_2 pa n_pa) (cwV 1 hts (jgV (jWr_24 _ (List.mem_of_getElem? (i := 22) rfl)) (jWr_16 _ (List.mem_of_getElem? (i := 0) rfl)) (jWr_16 _ (List.mem_of_getElem? (i := 1) rfl)) (jWr_1 _ (List.mem_of_getElem? (i := 14) rfl)) (jWr_16 _ (List.mem_of_getElem? (i := 2) rfl))) rfl rfl rfl (by decide +kernel) ⟨by rw [← hR]; exact Nat.le_of_ble_eq_true rfl, by rw [← hR]; exact Nat.le_of_ble_eq_true rfl⟩) ⟨fun a U g mk q => by obtain ⟨q0, q1, q2, qK, q10, q11, q12, q13⟩ := q; exact ⟨q0, q1, q2, jG.calling g mk a qK, q10, q11, q12, q13⟩, hh_2.recv (C := RX0) (T := TX0) (N := 2) hB2 rfl (by decide) hg_r0 hK, fun U hU hW => ⟨rfl, hU, hh_2.2.1, hG.step hW hU hh_2.1, hg_r0, hg_pa, (hh_2.2.2.1.sub (L1 := [(r0, 2, 1, .int wc_2), (r0, 2, 0, .ref pa)]) [0, 1] rfl), by first | omega | (refine ⟨?_, ?_, ?_, ?_, ?_⟩ <;> (first | omega | rfl | assumption | decide | exact Or.inl rfl | exact Or.inr rfl | (simp only; omega)))⟩⟩ rfl rfl hl.1 rfl (lv_room (Nat.le_of_ble_eq_true rfl)) dX0_append_26 ⟨Nat.zero_le _, Nat.zero_le _⟩) hh_2.1 (fun q _ h => h) (fun q h => h) (fun u_7 t_7 H_7 locs_7 ht_7 hvm_7 hr_8 hb_7 hz_7 hk_7 hS_7 => ?_)
          obtain ⟨qc_7, rfl⟩ : ∃ z, z = u_7 := ⟨_, rfl⟩
          rw [ht_7] at hb_7
          obtain ⟨hb_7, hbO_7⟩ := hb_7
          obtain ⟨hb_71, hb_72, hb_73, hb_74, hb_75⟩ := hb_7
          have hh_7 : jSt (dC, dI) B base G0 G0 EX0_appendF s.heap 0 0 [(r0, 2, 1, .int qc_7), (r0, 2, 0, .ref pa), (r1, 2, 0, .ref pr)] [] [] H_7 locs_7 := ((hh_2.call hb_71 hb_72 hb_73 hb_74 hS_7 rfl (L1 := [(r0, 2, 0, .ref pa), (r1, 2, 0, .ref pr)]) [1, 3] rfl rfl (M1 := []) [] rfl rfl (I1 := []) [] rfl rfl).more hb_75)
          have hh_9 := hh_7.more (P1 := [(r1, 2, 1, .int pd)]) (jP.cons hg_r1 (hbO_7 _ _ _ _ (by first | assumption | exact Ne.symm (by assumption) | exact jnek2 hg_r1 hg_r0 (by omega)) hg_r1 (hh_2.at 2 rfl)) jP.nil)
          have hd_10 := jOw.tr (hh_2.iv 0 rfl) hh_2.2.2.2.2.1 hbO_7
          have hh_11 := hh_9.addI (jOw.ie (dC := dC) (dI := dI) (G0 := G0) (k := 2) (r := r0) (H0 := s.heap) (F := [(2, 0), (2, 1)]) (C := RX0) (T := TX0) (N := 2) rfl (by decide) hh_9.2.2.2.2.1 (hd_10))
          clear hh_9
          clear hh_2 ht_7 hvm_7 hz_7 hk_7 hS_7 hb_71 hb_72 hb_73 hb_74 hb_75
          obtain ⟨z_12, ez_12⟩ : ∃ y : Int32, y = v2_2 + 1 := ⟨_, rfl⟩
          refine lv_iinc (v := z_12) (lv' := [(2, .int z_12), (0, .ref r0), (1, .ref r1)]) hx hb dX0_append_29 hl (k := 2) rfl (by rw [ez_12]; rfl) (by decide) rfl (fun ls hl => ?_)
          have hz_12 : z_12.toInt = v2_2.toInt + 1 := by rw [ez_12]; exact jb_iadd2 (rfl) (by decide) (by omega)
          refine lv_goto (tgt := 2) hx hb dX0_append_32 (by decide) ?_
          exact L2 z_12 qc_7 _ _ (hh_11.sub (L1 := [(r0, 2, 1, .int qc_7), (r0, 2, 0, .ref pa), (r1, 2, 1, .int pd), (r1, 2, 0, .ref pr)]) [1, 2, 0, 3] rfl (M1 := []) [] rfl (I1 := [([(2, 0), (2, 1)], jOw (dC, dI) G0 2 r0 s.heap)]) [0] rfl) (by first | omega | (refine ⟨?_, ?_, ?_⟩ <;> (first | omega | rfl | assumption | decide | exact Or.inl rfl | exact Or.inr rfl | (simp only; omega)))) (by omega) _ (lv_sub hl [1, 2, 0] rfl)
  exact L2 (pd.toInt - (0 : Int32).toInt : Int).toNat.succ 0 pc _ _ hh_1 (by first | omega | (refine ⟨?_, ?_, ?_⟩ <;> (first | omega | rfl | assumption | decide | exact Or.inl rfl | exact Or.inr rfl | (simp only; omega)))) (by omega) _ (lv_sub hl [1, 2, 0] rfl)
set_option maxHeartbeats 4000000 in
set_option maxRecDepth 20000 in
theorem uX0_numberF (l : Launch) (dC : Nat → ClassId) (dI : Nat → Nat → Nat) (ca : Nat → ClassId) (base : Nat) (B : jF) (hB : jBok B) (hAp : jAp (dC, dI)) (hB2 : ∀ n G a H, B 2 n G a H ↔ jOb (dC, dI) 2 2 (F2 n G) a H) (hB196 : ∀ n G a H, B 196 n G a H ↔ jAr (dC, dI) (ca 0) (fun j z => jBf j z) n a H) (G0 : jT) (H0 : Heap) (r0 : Nat) (a1 : Int32) (n0 : Nat) (pc : Int32) (pa : Nat) (n_pa : Nat) : Met l yX0_number (jw yX0_number cX0_number 9 none) ({ frames := 3, cells := 0, slots := 0, locals := 83 }) (va_Pc [.ref r0, .int a1] (fun U => U.heap = H0 ∧ jX B base G0 [] H0 ∧ jG dC dI ca base U ∧ G0 r0 = some (2, n0) ∧ G0 pa = some (196, n_pa) ∧ jP (dC, dI) G0 H0 [(r0, 2, 1, .int pc), (r0, 2, 0, .ref pa)] ∧ 1 ≤ n0 ∧ n0 ≤ 20000 ∧ 0 ≤ pc.toInt ∧ n_pa = n0 ∧ 0 ≤ a1.toInt ∧ jNp a1.toInt pc.toInt n0)) (va_Qv (S := Int32) (fun u => pc.toInt ≤ u.toInt ∧ (10 ≤ a1.toInt ∨ u.toInt ≤ pc.toInt + 1) ∧ (100 ≤ a1.toInt ∨ u.toInt ≤ pc.toInt + 2) ∧ (1000 ≤ a1.toInt ∨ u.toInt ≤ pc.toInt + 3) ∧ (10000 ≤ a1.toInt ∨ u.toInt ≤ pc.toInt + 4) ∧ (100000 ≤ a1.toInt ∨ u.toInt ≤ pc.toInt + 5) ∧ (1000000 ≤ a1.toInt ∨ u.toInt ≤ pc.toInt + 6) ∧ (10000000 ≤ a1.toInt ∨ u.toInt ≤ pc.toInt + 7)) (fun u t => (jRt (dC, dI) B base G0 EX0_numberF H0 [(r0, 2, 1, .int u)] t.heap) ∧ jOw (dC, dI) G0 2 r0 H0 t.heap) (jA base)) 0 0 (jA base) := by
  refine Met.ofW (cc := cX0_number) (maxL := 9) (ret := none) (by decide) rfl ?_
  intro p e s m args below meth c s₁ Bd hml hv
  obtain ⟨rfl, hH0, hX, hG, hg_r0, hg_pa, hP0, hp0, hp1, hp2, hp3, hp4, hp5⟩ := hv
  have hK := hG.1
  have hx := Bd.exec
  have hb := Bd.bytes
  have hr := Bd.returns
  have hts := atoms_spec (ws := (jw yX0_number cX0_number 9 none)) Bd.pre
  have htw : ∀ w ∈ jWl, w.before _ s = true := fun w h => hts w (List.mem_cons_of_mem _ h)
  have hown : s.vm.findClass RX0 = some m.cls := findClass_of_methodNamed Bd.named
  have hlocks := Bd.notSynchronized
  obtain ⟨Q, hQ⟩ : ∃ Q, Q = MQ below (va_Qv (S := Int32) (fun u => pc.toInt ≤ u.toInt ∧ (10 ≤ a1.toInt ∨ u.toInt ≤ pc.toInt + 1) ∧ (100 ≤ a1.toInt ∨ u.toInt ≤ pc.toInt + 2) ∧ (1000 ≤ a1.toInt ∨ u.toInt ≤ pc.toInt + 3) ∧ (10000 ≤ a1.toInt ∨ u.toInt ≤ pc.toInt + 4) ∧ (100000 ≤ a1.toInt ∨ u.toInt ≤ pc.toInt + 5) ∧ (1000000 ≤ a1.toInt ∨ u.toInt ≤ pc.toInt + 6) ∧ (10000000 ≤ a1.toInt ∨ u.toInt ≤ pc.toInt + 7)) (fun u t => (jRt (dC, dI) B base G0 EX0_numberF H0 [(r0, 2, 1, .int u)] t.heap) ∧ jOw (dC, dI) G0 2 r0 H0 t.heap) (jA base)) ([.ref r0, .int a1] : List Value).toArray s 0 0 (jA base) := ⟨_, rfl⟩
  rw [← hQ]
  have hl := lv_entry ([.ref r0, .int a1]) (n := 9) (Nat.le_of_ble_eq_true rfl)
  rw [lg_entry_eq]
  generalize (lg_sl ([.ref r0, .int a1]) ++ List.replicate (9 - (lg_sl ([.ref r0, .int a1])).length) Slot.unset).toArray = ls at hl ⊢
  have hl : lv_has ls 9 [(0, .ref r0), (1, .int a1)] := hl
  generalize hR : (headSpec (jw yX0_number cX0_number 9 none) ({ frames := 3, cells := 0, slots := 0, locals := 83 })).room = R
  subst hH0
  have hh : jSt (dC, dI) B base G0 G0 EX0_numberF s.heap 0 0 [(r0, 2, 1, .int pc), (r0, 2, 0, .ref pa)] [] [] s.heap [] := jSt.start hX hP0 jMc.nil jIs.nil
  clear hX hP0
  have hk0 : (0 : Int32).toInt = 0 := by decide
  have hk1 : (1 : Int32).toInt = 1 := by decide
  have hk45 : (45 : Int32).toInt = 45 := by decide
  have hrg_a1 := jb_rng a1
  have hh_1 := hh.addI (jOw.ie (dC := dC) (dI := dI) (G0 := G0) (k := 2) (r := r0) (H0 := s.heap) (F := [(2, 0), (2, 1)]) (C := RX0) (T := TX0) (N := 2) rfl (by decide) hh.2.2.2.2.1 (jOw.rf))
  clear hh
  refine lv_iload_n hx hb dX0_number_0 rfl (lv_at hl 1 rfl) ?_
  refine lv_i2l hx hb dX0_number_1 rfl ?_
  refine lv_topl (fun z_2 ez_2 => ?_)
  have hz_2 : z_2.toInt = a1.toInt := by rw [ez_2]; exact Int32.toInt_toInt64 _
  refine lv_lstore_n (lv' := [(2, .long z_2), (0, .ref r0), (1, .int a1)]) hx hb dX0_number_2 rfl hl (by decide) rfl (fun ls hl => ?_)
  refine lv_lload_n hx hb dX0_number_3 rfl (lv_at hl 0 rfl) ?_
  refine lv_lconst (v := 0) hx hb dX0_number_4 (by decide) ?_
  refine W.lcmp hx hb dX0_number_5 ?_
  refine lv_topi (fun z_3 ez_3 => ?_)
  have hz_3 := jb_lcmp ez_3
  have hqz_3_0 : (0 : Int64).toInt = 0 := by decide
  refine lv_if_ge (tgt := 18) hx hb dX0_number_6 (by decide) (fun c_4 => ?_) (fun c_4 => ?_)
  · skip
    have c_4' : z_3.toInt ≥ 0 := jb_ge (rfl) ((by decide)) c_4
    refine lv_iconst (v := 0) hx hb dX0_number_18 (by decide) ?_
    refine lv_istore (lv' := [(4, .int 0), (2, .long z_2), (0, .ref r0), (1, .int a1)]) hx hb dX0_number_19 hl (by decide) rfl (fun ls hl => ?_)
    refine lv_ldc2 hx hb hown (htw (.constantLong RX0 44 1000000000) (jWr_24 _ (List.mem_of_getElem? (i := 19) rfl))) dX0_number_21 ?_
    refine lv_lstore (lv' := [(5, .long 1000000000), (4, .int 0), (2, .long z_2), (0, .ref r0), (1, .int a1)]) hx hb dX0_number_24 hl (by decide) rfl (fun ls hl => ?_)
    have L26 : ∀ (N : Nat) (v4_5 : Int32) (v5_5 : Int64) (wc_5 : Int32) (gk : Int) (H_5 : Heap) (locs_5 : List Loc), jSt (dC, dI) B base G0 G0 EX0_numberF s.heap 0 0 [(r0, 2, 1, .int wc_5), (r0, 2, 0, .ref pa)] [] [([(2, 0), (2, 1)], jOw (dC, dI) G0 2 r0 s.heap)] H_5 locs_5 → (v4_5 = 0 ∨ v4_5 = 1) → (pc.toInt ≤ wc_5.toInt ∧ 0 ≤ v5_5.toInt ∧ jNdg z_2.toInt v5_5.toInt gk (wc_5.toInt - pc.toInt) v4_5.toInt) → (v5_5.toInt : Int) < N → ∀ ls : Array Slot, lv_has ls 9 [(0, .ref r0), (1, .int a1), (2, .long z_2), (4, .int v4_5), (5, .long v5_5)] → W p l e R s m ([.ref r0, .int a1] : List Value).toArray below meth c H_5 locs_5 0 0 Q (F0 m 26 ls []) := by
      intro N
      induction N with
      | zero => intro v4_5 v5_5 wc_5 gk H_5 locs_5 hh_5 hb_v4_5 hi_5 hm; exact absurd hm (by omega)
      | succ N L26 =>
        intro v4_5 v5_5 wc_5 gk H_5 locs_5 hh_5 hb_v4_5 hi_5 hm_5 ls hl
        obtain ⟨hi_5_0, hi_5_1, hi_5_2⟩ := hi_5
        have hb_v4_5' := jb_01 hb_v4_5
        refine lv_lload hx hb dX0_number_26 (lv_at hl 4 rfl) ?_
        refine lv_lconst (v := 0) hx hb dX0_number_28 (by decide) ?_
        refine W.lcmp hx hb dX0_number_29 ?_
        refine lv_topi (fun z_6 ez_6 => ?_)
        have hz_6 := jb_lcmp ez_6
        have hqz_6_0 : (0 : Int64).toInt = 0 := by decide
        refine lv_if_le (tgt := 96) hx hb dX0_number_30 (by decide) (fun c_7 => ?_) (fun c_7 => ?_)
        · skip
          have c_7' : z_6.toInt ≤ 0 := jb_le (rfl) ((by decide)) c_7
          rw [hQ]
          exact W.vret hx hb hr (fun t ht hW => ⟨⟨wc_5, rfl, by obtain ⟨h1, h2, h3, h4, h5, h6, h7⟩ := hi_5_2.end (by omega); rw [show z_2.toInt = a1.toInt by omega] at h1 h2 h3 h4 h5 h6 h7; refine ⟨by omega, ?_, ?_, ?_, ?_, ?_, ?_, ?_⟩; (clear h2 h3 h4 h5 h6 h7; omega); (clear h1 h3 h4 h5 h6 h7; omega); (clear h1 h2 h4 h5 h6 h7; omega); (clear h1 h2 h3 h5 h6 h7; omega); (clear h1 h2 h3 h4 h6 h7; omega); (clear h1 h2 h3 h4 h5 h7; omega); (clear h1 h2 h3 h4 h5 h6; omega), ⟨hh_5.rt (M1 := [(r0, 2, 1, .int wc_5)]) [0] rfl ht, by rw [ht]; exact hh_5.iv 0 rfl⟩⟩, by rw [ht]; try exact hh_5.1.1, fun q h9 hq => by rw [ht]; try exact hh_5.1.2.1 q h9 hq⟩) hh_5.1.2.2 dX0_number_96
        · skip
          have c_7' : z_6.toInt > 0 := jb_le_n (rfl) ((by decide)) c_7
          refine lv_lload_n hx hb dX0_number_33 rfl (lv_at hl 2 rfl) ?_
          refine lv_lload hx hb dX0_number_34 (lv_at hl 4 rfl) ?_
          refine lv_ldiv hx hb dX0_number_36 (jb_lne (by omega)) ?_
          refine lv_topl (fun z_8 ez_8 => ?_)
          have hz_8 : z_8.toInt = z_2.toInt / v5_5.toInt := by rw [ez_8]; exact jb_ldiv (rfl) (rfl) (by omega) (by omega)
          have hbz_8 : 0 ≤ z_8.toInt := by rw [hz_8]; exact Int.ediv_nonneg (by omega) (by omega)
          refine lv_ldc2 hx hb hown (htw (.constantLong RX0 46 10) (jWr_24 _ (List.mem_of_getElem? (i := 20) rfl))) dX0_number_37 ?_
          refine lv_lrem hx hb dX0_number_40 (by decide) ?_
          refine lv_topl (fun z_9 ez_9 => ?_)
          have hbz_9 := jb_lremz ez_9
          refine lv_lstore (lv' := [(7, .long z_9), (0, .ref r0), (1, .int a1), (2, .long z_2), (4, .int v4_5), (5, .long v5_5)]) hx hb dX0_number_41 hl (by decide) rfl (fun ls hl => ?_)
          refine lv_iload hx hb dX0_number_43 (lv_at hl 4 rfl) ?_
          refine lv_if_ne (tgt := 62) hx hb dX0_number_45 (by decide) (fun c_10 => ?_) (fun c_10 => ?_)
          · skip
            have c_10' : v4_5.toInt ≠ 0 := jb_ne (rfl) ((by decide)) c_10
            refine lv_iconst (v := 1) hx hb dX0_number_62 (by decide) ?_
            refine lv_goto (tgt := 67) hx hb dX0_number_63 (by decide) ?_
            refine lv_istore (lv' := [(4, .int 1), (7, .long z_9), (0, .ref r0), (1, .int a1), (2, .long z_2), (5, .long v5_5)]) hx hb dX0_number_67 hl (by decide) rfl (fun ls hl => ?_)
            refine lv_iload hx hb dX0_number_69 (lv_at hl 0 rfl) ?_
            refine lv_if_eq (tgt := 85) hx hb dX0_number_71 (by decide) (fun c_11 => ?_) (fun c_11 => ?_)
            · skip
              exact absurd c_11 (by decide)
            · skip
              have hnp : jNp (z_2.toInt) pc.toInt n0 := by rw [show z_2.toInt = a1.toInt by omega]; assumption
              have hlt := jNdg.lt hi_5_2 (by omega) (by first | (left; omega) | (right; left; omega) | (right; right; omega)) hnp
              refine lv_aload_n hx hb dX0_number_74 rfl (lv_at hl 2 rfl) ?_
              refine lv_ldc2 hx hb hown (htw (.constantLong RX0 48 48) (jWr_24 _ (List.mem_of_getElem? (i := 21) rfl))) dX0_number_75 ?_
              refine lv_lload hx hb dX0_number_78 (lv_at hl 1 rfl) ?_
              refine lv_ladd hx hb dX0_number_80 ?_
              refine lv_topl (fun z_12 ez_12 => ?_)
              refine lv_l2i hx hb dX0_number_81 rfl ?_
              refine lv_topi (fun z_13 ez_13 => ?_)
              refine va_callv (A0 := jA base) (H0 := s.heap) (va_runV (As := [.int z_13]) (rest := []) ⟨hx, hb, hml, hown, hts⟩ (uX0_putF l dC dI ca base B hB hAp hB2 hB196 G0 H_5 r0 z_13 n0 wc_5 pa n_pa) (cwV 1 hts (jgV (jWr_24 _ (List.mem_of_getElem? (i := 22) rfl)) (jWr_16 _ (List.mem_of_getElem? (i := 0) rfl)) (jWr_16 _ (List.mem_of_getElem? (i := 1) rfl)) (jWr_1 _ (List.mem_of_getElem? (i := 14) rfl)) (jWr_16 _ (List.mem_of_getElem? (i := 2) rfl))) rfl rfl rfl (by decide +kernel) ⟨by rw [← hR]; exact Nat.le_of_ble_eq_true rfl, by rw [← hR]; exact Nat.le_of_ble_eq_true rfl⟩) ⟨fun a U g mk q => by obtain ⟨q0, q1, q2, qK, q10, q11, q12, q13⟩ := q; exact ⟨q0, q1, q2, jG.calling g mk a qK, q10, q11, q12, q13⟩, hh_5.recv (C := RX0) (T := TX0) (N := 2) hB2 rfl (by decide) hg_r0 hK, fun U hU hW => ⟨rfl, hU, hh_5.2.1, hG.step hW hU hh_5.1, hg_r0, hg_pa, (hh_5.2.2.1.sub (L1 := [(r0, 2, 1, .int wc_5), (r0, 2, 0, .ref pa)]) [0, 1] rfl), by first | omega | (refine ⟨?_, ?_, ?_, ?_, ?_⟩ <;> (first | omega | rfl | assumption | decide | exact Or.inl rfl | exact Or.inr rfl | (simp only; omega)))⟩⟩ rfl rfl hl.1 rfl (lv_room (Nat.le_of_ble_eq_true rfl)) dX0_number_82 ⟨Nat.zero_le _, Nat.zero_le _⟩) hh_5.1 (fun q _ h => h) (fun q h => h) (fun u_14 t_14 H_14 locs_14 ht_14 hvm_14 hr_15 hb_14 hz_14 hk_14 hS_14 => ?_)
              obtain ⟨qc_14, rfl⟩ : ∃ z, z = u_14 := ⟨_, rfl⟩
              rw [ht_14] at hb_14
              obtain ⟨hb_14, hbO_14⟩ := hb_14
              obtain ⟨hb_141, hb_142, hb_143, hb_144, hb_145⟩ := hb_14
              have hh_14 : jSt (dC, dI) B base G0 G0 EX0_numberF s.heap 0 0 [(r0, 2, 1, .int qc_14), (r0, 2, 0, .ref pa)] [] [] H_14 locs_14 := ((hh_5.call hb_141 hb_142 hb_143 hb_144 hS_14 rfl (L1 := [(r0, 2, 0, .ref pa)]) [1] rfl rfl (M1 := []) [] rfl rfl (I1 := []) [] rfl rfl).more hb_145)
              have hd_16 := jOw.tr (hh_5.iv 0 rfl) hh_5.2.2.2.2.1 hbO_14
              have hh_17 := hh_14.addI (jOw.ie (dC := dC) (dI := dI) (G0 := G0) (k := 2) (r := r0) (H0 := s.heap) (F := [(2, 0), (2, 1)]) (C := RX0) (T := TX0) (N := 2) rfl (by decide) hh_14.2.2.2.2.1 (hd_16))
              clear hh_14
              clear hh_5 ht_14 hvm_14 hz_14 hk_14 hS_14 hb_141 hb_142 hb_143 hb_144 hb_145
              refine lv_lload hx hb dX0_number_85 (lv_at hl 5 rfl) ?_
              refine lv_ldc2 hx hb hown (htw (.constantLong RX0 46 10) (jWr_24 _ (List.mem_of_getElem? (i := 20) rfl))) dX0_number_87 ?_
              refine lv_ldiv hx hb dX0_number_90 (by decide) ?_
              refine lv_topl (fun z_18 ez_18 => ?_)
              have hz_18 : z_18.toInt = v5_5.toInt / 10 := by rw [ez_18]; exact jb_ldiv (rfl) ((by decide)) (by omega) (by omega)
              refine lv_lstore (lv' := [(5, .long z_18), (4, .int 1), (7, .long z_9), (0, .ref r0), (1, .int a1), (2, .long z_2)]) hx hb dX0_number_91 hl (by decide) rfl (fun ls hl => ?_)
              refine lv_goto (tgt := 26) hx hb dX0_number_93 (by decide) ?_
              exact L26 1 z_18 qc_14 (gk - 1) _ _ hh_17 (Or.inr rfl) (by refine ⟨by omega, by omega, ?_⟩; first | exact hi_5_2.put (by omega) (by first | (left; omega) | (right; left; omega) | (right; right; omega)) (by omega) (by first | omega | decide) (by omega) | exact hi_5_2.no (by omega) (by omega) (by omega) (by first | omega | decide) (by omega)) (by omega) _ (lv_sub hl [3, 4, 5, 1, 0] rfl)
          · skip
            have c_10' : v4_5.toInt = 0 := jb_ne_n (rfl) ((by decide)) c_10
            refine lv_lload hx hb dX0_number_48 (lv_at hl 0 rfl) ?_
            refine lv_lconst (v := 0) hx hb dX0_number_50 (by decide) ?_
            refine W.lcmp hx hb dX0_number_51 ?_
            refine lv_topi (fun z_19 ez_19 => ?_)
            have hz_19 := jb_lcmp ez_19
            have hqz_19_0 : (0 : Int64).toInt = 0 := by decide
            refine lv_if_gt (tgt := 62) hx hb dX0_number_52 (by decide) (fun c_20 => ?_) (fun c_20 => ?_)
            · skip
              have c_20' : z_19.toInt > 0 := jb_gt (rfl) ((by decide)) c_20
              refine lv_iconst (v := 1) hx hb dX0_number_62 (by decide) ?_
              refine lv_goto (tgt := 67) hx hb dX0_number_63 (by decide) ?_
              refine lv_istore (lv' := [(4, .int 1), (7, .long z_9), (0, .ref r0), (1, .int a1), (2, .long z_2), (5, .long v5_5)]) hx hb dX0_number_67 hl (by decide) rfl (fun ls hl => ?_)
              refine lv_iload hx hb dX0_number_69 (lv_at hl 0 rfl) ?_
              refine lv_if_eq (tgt := 85) hx hb dX0_number_71 (by decide) (fun c_21 => ?_) (fun c_21 => ?_)
              · skip
                exact absurd c_21 (by decide)
              · skip
                have hnp : jNp (z_2.toInt) pc.toInt n0 := by rw [show z_2.toInt = a1.toInt by omega]; assumption
                have hlt := jNdg.lt hi_5_2 (by omega) (by first | (left; omega) | (right; left; omega) | (right; right; omega)) hnp
                refine lv_aload_n hx hb dX0_number_74 rfl (lv_at hl 2 rfl) ?_
                refine lv_ldc2 hx hb hown (htw (.constantLong RX0 48 48) (jWr_24 _ (List.mem_of_getElem? (i := 21) rfl))) dX0_number_75 ?_
                refine lv_lload hx hb dX0_number_78 (lv_at hl 1 rfl) ?_
                refine lv_ladd hx hb dX0_number_80 ?_
                refine lv_topl (fun z_22 ez_22 => ?_)
                refine lv_l2i hx hb dX0_number_81 rfl ?_
                refine lv_topi (fun z_23 ez_23 => ?_)
                refine va_callv (A0 := jA base) (H0 := s.heap) (va_runV (As := [.int z_23]) (rest := []) ⟨hx, hb, hml, hown, hts⟩ (uX0_putF l dC dI ca base B hB hAp hB2 hB196 G0 H_5 r0 z_23 n0 wc_5 pa n_pa) (cwV 1 hts (jgV (jWr_24 _ (List.mem_of_getElem? (i := 22) rfl)) (jWr_16 _ (List.mem_of_getElem? (i := 0) rfl)) (jWr_16 _ (List.mem_of_getElem? (i := 1) rfl)) (jWr_1 _ (List.mem_of_getElem? (i := 14) rfl)) (jWr_16 _ (List.mem_of_getElem? (i := 2) rfl))) rfl rfl rfl (by decide +kernel) ⟨by rw [← hR]; exact Nat.le_of_ble_eq_true rfl, by rw [← hR]; exact Nat.le_of_ble_eq_true rfl⟩) ⟨fun a U g mk q => by obtain ⟨q0, q1, q2, qK, q10, q11, q12, q13⟩ := q; exact ⟨q0, q1, q2, jG.calling g mk a qK, q10, q11, q12, q13⟩, hh_5.recv (C := RX0) (T := TX0) (N := 2) hB2 rfl (by decide) hg_r0 hK, fun U hU hW => ⟨rfl, hU, hh_5.2.1, hG.step hW hU hh_5.1, hg_r0, hg_pa, (hh_5.2.2.1.sub (L1 := [(r0, 2, 1, .int wc_5), (r0, 2, 0, .ref pa)]) [0, 1] rfl), by first | omega | (refine ⟨?_, ?_, ?_, ?_, ?_⟩ <;> (first | omega | rfl | assumption | decide | exact Or.inl rfl | exact Or.inr rfl | (simp only; omega)))⟩⟩ rfl rfl hl.1 rfl (lv_room (Nat.le_of_ble_eq_true rfl)) dX0_number_82 ⟨Nat.zero_le _, Nat.zero_le _⟩) hh_5.1 (fun q _ h => h) (fun q h => h) (fun u_24 t_24 H_24 locs_24 ht_24 hvm_24 hr_25 hb_24 hz_24 hk_24 hS_24 => ?_)
                obtain ⟨qc_24, rfl⟩ : ∃ z, z = u_24 := ⟨_, rfl⟩
                rw [ht_24] at hb_24
                obtain ⟨hb_24, hbO_24⟩ := hb_24
                obtain ⟨hb_241, hb_242, hb_243, hb_244, hb_245⟩ := hb_24
                have hh_24 : jSt (dC, dI) B base G0 G0 EX0_numberF s.heap 0 0 [(r0, 2, 1, .int qc_24), (r0, 2, 0, .ref pa)] [] [] H_24 locs_24 := ((hh_5.call hb_241 hb_242 hb_243 hb_244 hS_24 rfl (L1 := [(r0, 2, 0, .ref pa)]) [1] rfl rfl (M1 := []) [] rfl rfl (I1 := []) [] rfl rfl).more hb_245)
                have hd_26 := jOw.tr (hh_5.iv 0 rfl) hh_5.2.2.2.2.1 hbO_24
                have hh_27 := hh_24.addI (jOw.ie (dC := dC) (dI := dI) (G0 := G0) (k := 2) (r := r0) (H0 := s.heap) (F := [(2, 0), (2, 1)]) (C := RX0) (T := TX0) (N := 2) rfl (by decide) hh_24.2.2.2.2.1 (hd_26))
                clear hh_24
                clear hh_5 ht_24 hvm_24 hz_24 hk_24 hS_24 hb_241 hb_242 hb_243 hb_244 hb_245
                refine lv_lload hx hb dX0_number_85 (lv_at hl 5 rfl) ?_
                refine lv_ldc2 hx hb hown (htw (.constantLong RX0 46 10) (jWr_24 _ (List.mem_of_getElem? (i := 20) rfl))) dX0_number_87 ?_
                refine lv_ldiv hx hb dX0_number_90 (by decide) ?_
                refine lv_topl (fun z_28 ez_28 => ?_)
                have hz_28 : z_28.toInt = v5_5.toInt / 10 := by rw [ez_28]; exact jb_ldiv (rfl) ((by decide)) (by omega) (by omega)
                refine lv_lstore (lv' := [(5, .long z_28), (4, .int 1), (7, .long z_9), (0, .ref r0), (1, .int a1), (2, .long z_2)]) hx hb dX0_number_91 hl (by decide) rfl (fun ls hl => ?_)
                refine lv_goto (tgt := 26) hx hb dX0_number_93 (by decide) ?_
                exact L26 1 z_28 qc_24 (gk - 1) _ _ hh_27 (Or.inr rfl) (by refine ⟨by omega, by omega, ?_⟩; first | exact hi_5_2.put (by omega) (by first | (left; omega) | (right; left; omega) | (right; right; omega)) (by omega) (by first | omega | decide) (by omega) | exact hi_5_2.no (by omega) (by omega) (by omega) (by first | omega | decide) (by omega)) (by omega) _ (lv_sub hl [3, 4, 5, 1, 0] rfl)
            · skip
              have c_20' : z_19.toInt ≤ 0 := jb_gt_n (rfl) ((by decide)) c_20
              refine lv_lload hx hb dX0_number_55 (lv_at hl 5 rfl) ?_
              refine lv_lconst (v := 1) hx hb dX0_number_57 (by decide) ?_
              refine W.lcmp hx hb dX0_number_58 ?_
              refine lv_topi (fun z_29 ez_29 => ?_)
              have hz_29 := jb_lcmp ez_29
              have hqz_29_1 : (1 : Int64).toInt = 1 := by decide
              refine lv_if_ne (tgt := 66) hx hb dX0_number_59 (by decide) (fun c_30 => ?_) (fun c_30 => ?_)
              · skip
                have c_30' : z_29.toInt ≠ 0 := jb_ne (rfl) ((by decide)) c_30
                refine lv_iconst (v := 0) hx hb dX0_number_66 (by decide) ?_
                refine lv_istore (lv' := [(4, .int 0), (7, .long z_9), (0, .ref r0), (1, .int a1), (2, .long z_2), (5, .long v5_5)]) hx hb dX0_number_67 hl (by decide) rfl (fun ls hl => ?_)
                refine lv_iload hx hb dX0_number_69 (lv_at hl 0 rfl) ?_
                refine lv_if_eq (tgt := 85) hx hb dX0_number_71 (by decide) (fun c_31 => ?_) (fun c_31 => ?_)
                · skip
                  refine lv_lload hx hb dX0_number_85 (lv_at hl 5 rfl) ?_
                  refine lv_ldc2 hx hb hown (htw (.constantLong RX0 46 10) (jWr_24 _ (List.mem_of_getElem? (i := 20) rfl))) dX0_number_87 ?_
                  refine lv_ldiv hx hb dX0_number_90 (by decide) ?_
                  refine lv_topl (fun z_32 ez_32 => ?_)
                  have hz_32 : z_32.toInt = v5_5.toInt / 10 := by rw [ez_32]; exact jb_ldiv (rfl) ((by decide)) (by omega) (by omega)
                  refine lv_lstore (lv' := [(5, .long z_32), (4, .int 0), (7, .long z_9), (0, .ref r0), (1, .int a1), (2, .long z_2)]) hx hb dX0_number_91 hl (by decide) rfl (fun ls hl => ?_)
                  refine lv_goto (tgt := 26) hx hb dX0_number_93 (by decide) ?_
                  exact L26 0 z_32 wc_5 (gk - 1) _ _ hh_5 (Or.inl rfl) (by refine ⟨by omega, by omega, ?_⟩; first | exact hi_5_2.put (by omega) (by first | (left; omega) | (right; left; omega) | (right; right; omega)) (by omega) (by first | omega | decide) (by omega) | exact hi_5_2.no (by omega) (by omega) (by omega) (by first | omega | decide) (by omega)) (by omega) _ (lv_sub hl [3, 4, 5, 1, 0] rfl)
                · skip
                  exact absurd c_31 (by decide)
              · skip
                have c_30' : z_29.toInt = 0 := jb_ne_n (rfl) ((by decide)) c_30
                refine lv_iconst (v := 1) hx hb dX0_number_62 (by decide) ?_
                refine lv_goto (tgt := 67) hx hb dX0_number_63 (by decide) ?_
                refine lv_istore (lv' := [(4, .int 1), (7, .long z_9), (0, .ref r0), (1, .int a1), (2, .long z_2), (5, .long v5_5)]) hx hb dX0_number_67 hl (by decide) rfl (fun ls hl => ?_)
                refine lv_iload hx hb dX0_number_69 (lv_at hl 0 rfl) ?_
                refine lv_if_eq (tgt := 85) hx hb dX0_number_71 (by decide) (fun c_33 => ?_) (fun c_33 => ?_)
                · skip
                  exact absurd c_33 (by decide)
                · skip
                  have hnp : jNp (z_2.toInt) pc.toInt n0 := by rw [show z_2.toInt = a1.toInt by omega]; assumption
                  have hlt := jNdg.lt hi_5_2 (by omega) (by first | (left; omega) | (right; left; omega) | (right; right; omega)) hnp
                  refine lv_aload_n hx hb dX0_number_74 rfl (lv_at hl 2 rfl) ?_
                  refine lv_ldc2 hx hb hown (htw (.constantLong RX0 48 48) (jWr_24 _ (List.mem_of_getElem? (i := 21) rfl))) dX0_number_75 ?_
                  refine lv_lload hx hb dX0_number_78 (lv_at hl 1 rfl) ?_
                  refine lv_ladd hx hb dX0_number_80 ?_
                  refine lv_topl (fun z_34 ez_34 => ?_)
                  refine lv_l2i hx hb dX0_number_81 rfl ?_
                  refine lv_topi (fun z_35 ez_35 => ?_)
                  refine va_callv (A0 := jA base) (H0 := s.heap) (va_runV (As := [.int z_35]) (rest := []) ⟨hx, hb, hml, hown, hts⟩ (uX0_putF l dC dI ca base B hB hAp hB2 hB196 G0 H_5 r0 z_35 n0 wc_5 pa n_pa) (cwV 1 hts (jgV (jWr_24 _ (List.mem_of_getElem? (i := 22) rfl)) (jWr_16 _ (List.mem_of_getElem? (i := 0) rfl)) (jWr_16 _ (List.mem_of_getElem? (i := 1) rfl)) (jWr_1 _ (List.mem_of_getElem? (i := 14) rfl)) (jWr_16 _ (List.mem_of_getElem? (i := 2) rfl))) rfl rfl rfl (by decide +kernel) ⟨by rw [← hR]; exact Nat.le_of_ble_eq_true rfl, by rw [← hR]; exact Nat.le_of_ble_eq_true rfl⟩) ⟨fun a U g mk q => by obtain ⟨q0, q1, q2, qK, q10, q11, q12, q13⟩ := q; exact ⟨q0, q1, q2, jG.calling g mk a qK, q10, q11, q12, q13⟩, hh_5.recv (C := RX0) (T := TX0) (N := 2) hB2 rfl (by decide) hg_r0 hK, fun U hU hW => ⟨rfl, hU, hh_5.2.1, hG.step hW hU hh_5.1, hg_r0, hg_pa, (hh_5.2.2.1.sub (L1 := [(r0, 2, 1, .int wc_5), (r0, 2, 0, .ref pa)]) [0, 1] rfl), by first | omega | (refine ⟨?_, ?_, ?_, ?_, ?_⟩ <;> (first | omega | rfl | assumption | decide | exact Or.inl rfl | exact Or.inr rfl | (simp only; omega)))⟩⟩ rfl rfl hl.1 rfl (lv_room (Nat.le_of_ble_eq_true rfl)) dX0_number_82 ⟨Nat.zero_le _, Nat.zero_le _⟩) hh_5.1 (fun q _ h => h) (fun q h => h) (fun u_36 t_36 H_36 locs_36 ht_36 hvm_36 hr_37 hb_36 hz_36 hk_36 hS_36 => ?_)
                  obtain ⟨qc_36, rfl⟩ : ∃ z, z = u_36 := ⟨_, rfl⟩
                  rw [ht_36] at hb_36
                  obtain ⟨hb_36, hbO_36⟩ := hb_36
                  obtain ⟨hb_361, hb_362, hb_363, hb_364, hb_365⟩ := hb_36
                  have hh_36 : jSt (dC, dI) B base G0 G0 EX0_numberF s.heap 0 0 [(r0, 2, 1, .int qc_36), (r0, 2, 0, .ref pa)] [] [] H_36 locs_36 := ((hh_5.call hb_361 hb_362 hb_363 hb_364 hS_36 rfl (L1 := [(r0, 2, 0, .ref pa)]) [1] rfl rfl (M1 := []) [] rfl rfl (I1 := []) [] rfl rfl).more hb_365)
                  have hd_38 := jOw.tr (hh_5.iv 0 rfl) hh_5.2.2.2.2.1 hbO_36
                  have hh_39 := hh_36.addI (jOw.ie (dC := dC) (dI := dI) (G0 := G0) (k := 2) (r := r0) (H0 := s.heap) (F := [(2, 0), (2, 1)]) (C := RX0) (T := TX0) (N := 2) rfl (by decide) hh_36.2.2.2.2.1 (hd_38))
                  clear hh_36
                  clear hh_5 ht_36 hvm_36 hz_36 hk_36 hS_36 hb_361 hb_362 hb_363 hb_364 hb_365
                  refine lv_lload hx hb dX0_number_85 (lv_at hl 5 rfl) ?_
                  refine lv_ldc2 hx hb hown (htw (.constantLong RX0 46 10) (jWr_24 _ (List.mem_of_getElem? (i := 20) rfl))) dX0_number_87 ?_
                  refine lv_ldiv hx hb dX0_number_90 (by decide) ?_
                  refine lv_topl (fun z_40 ez_40 => ?_)
                  have hz_40 : z_40.toInt = v5_5.toInt / 10 := by rw [ez_40]; exact jb_ldiv (rfl) ((by decide)) (by omega) (by omega)
                  refine lv_lstore (lv' := [(5, .long z_40), (4, .int 1), (7, .long z_9), (0, .ref r0), (1, .int a1), (2, .long z_2)]) hx hb dX0_number_91 hl (by decide) rfl (fun ls hl => ?_)
                  refine lv_goto (tgt := 26) hx hb dX0_number_93 (by decide) ?_
                  exact L26 1 z_40 qc_36 (gk - 1) _ _ hh_39 (Or.inr rfl) (by refine ⟨by omega, by omega, ?_⟩; first | exact hi_5_2.put (by omega) (by first | (left; omega) | (right; left; omega) | (right; right; omega)) (by omega) (by first | omega | decide) (by omega) | exact hi_5_2.no (by omega) (by omega) (by omega) (by first | omega | decide) (by omega)) (by omega) _ (lv_sub hl [3, 4, 5, 1, 0] rfl)
    exact L26 ((1000000000 : Int64).toInt : Int).toNat.succ 0 1000000000 pc (10) _ _ hh_1 (Or.inl rfl) (by refine ⟨by omega, by decide, ?_⟩; rw [show (1000000000 : Int64).toInt = 1000000000 by decide, hk0, Int.sub_self]; exact jNdg.start) (by omega) _ (lv_sub hl [3, 4, 2, 1, 0] rfl)
  · skip
    have c_4' : z_3.toInt < 0 := jb_ge_n (rfl) ((by decide)) c_4
    exact absurd c_4' (by omega)
end
section
-- the digits of a number are counted
theorem jDi.bd {c v d : Int} (h : jDi c v d) : 1 ≤ d ∧ d ≤ 7 := by unfold jDi at h; omega
end
section
theorem dX11_send_0 : decode cX11_send 0 = .ok (.aload_n 0, 1) := by decide +kernel
theorem dX11_send_1 : decode cX11_send 1 = .ok (.getfield 21, 3) := by decide +kernel
theorem dX11_send_4 : decode cX11_send 4 = .ok (.getfield 102, 3) := by decide +kernel
theorem dX11_send_7 : decode cX11_send 7 = .ok (.ifCond .eq 4, 3) := by decide +kernel
theorem dX11_send_10 : decode cX11_send 10 = .ok (.return_, 1) := by decide +kernel
theorem dX11_send_11 : decode cX11_send 11 = .ok (.iconst 1, 1) := by decide +kernel
theorem dX11_send_12 : decode cX11_send 12 = .ok (.istore_n 1, 1) := by decide +kernel
theorem dX11_send_13 : decode cX11_send 13 = .ok (.aload_n 0, 1) := by decide +kernel
theorem dX11_send_14 : decode cX11_send 14 = .ok (.getfield 35, 3) := by decide +kernel
theorem dX11_send_17 : decode cX11_send 17 = .ok (.getfield 92, 3) := by decide +kernel
theorem dX11_send_20 : decode cX11_send 20 = .ok (.istore_n 2, 1) := by decide +kernel
theorem dX11_send_21 : decode cX11_send 21 = .ok (.iload_n 2, 1) := by decide +kernel
theorem dX11_send_22 : decode cX11_send 22 = .ok (.bipush 10, 2) := by decide +kernel
theorem dX11_send_24 : decode cX11_send 24 = .ok (.if_icmp .lt 14, 3) := by decide +kernel
theorem dX11_send_27 : decode cX11_send 27 = .ok (.iinc 1 1, 3) := by decide +kernel
theorem dX11_send_30 : decode cX11_send 30 = .ok (.iload_n 2, 1) := by decide +kernel
theorem dX11_send_31 : decode cX11_send 31 = .ok (.bipush 10, 2) := by decide +kernel
theorem dX11_send_33 : decode cX11_send 33 = .ok (.idiv, 1) := by decide +kernel
theorem dX11_send_34 : decode cX11_send 34 = .ok (.istore_n 2, 1) := by decide +kernel
theorem dX11_send_35 : decode cX11_send 35 = .ok (.goto (-14), 3) := by decide +kernel
theorem dX11_send_38 : decode cX11_send 38 = .ok (.aload_n 0, 1) := by decide +kernel
theorem dX11_send_39 : decode cX11_send 39 = .ok (.getfield 32, 3) := by decide +kernel
theorem dX11_send_42 : decode cX11_send 42 = .ok (.getfield 92, 3) := by decide +kernel
theorem dX11_send_45 : decode cX11_send 45 = .ok (.bipush 20, 2) := by decide +kernel
theorem dX11_send_47 : decode cX11_send 47 = .ok (.iadd, 1) := by decide +kernel
theorem dX11_send_48 : decode cX11_send 48 = .ok (.iload_n 1, 1) := by decide +kernel
theorem dX11_send_49 : decode cX11_send 49 = .ok (.iadd, 1) := by decide +kernel
theorem dX11_send_50 : decode cX11_send 50 = .ok (.aload_n 0, 1) := by decide +kernel
theorem dX11_send_51 : decode cX11_send 51 = .ok (.getfield 35, 3) := by decide +kernel
theorem dX11_send_54 : decode cX11_send 54 = .ok (.getfield 92, 3) := by decide +kernel
theorem dX11_send_57 : decode cX11_send 57 = .ok (.iadd, 1) := by decide +kernel
theorem dX11_send_58 : decode cX11_send 58 = .ok (.sipush 20000, 3) := by decide +kernel
theorem dX11_send_61 : decode cX11_send 61 = .ok (.if_icmp .le 14, 3) := by decide +kernel
theorem dX11_send_64 : decode cX11_send 64 = .ok (.aload_n 0, 1) := by decide +kernel
theorem dX11_send_65 : decode cX11_send 65 = .ok (.dup, 1) := by decide +kernel
theorem dX11_send_66 : decode cX11_send 66 = .ok (.getfield 151, 3) := by decide +kernel
theorem dX11_send_69 : decode cX11_send 69 = .ok (.iconst 1, 1) := by decide +kernel
theorem dX11_send_70 : decode cX11_send 70 = .ok (.iadd, 1) := by decide +kernel
theorem dX11_send_71 : decode cX11_send 71 = .ok (.putfield 151, 3) := by decide +kernel
theorem dX11_send_74 : decode cX11_send 74 = .ok (.return_, 1) := by decide +kernel
theorem dX11_send_75 : decode cX11_send 75 = .ok (.aload_n 0, 1) := by decide +kernel
theorem dX11_send_76 : decode cX11_send 76 = .ok (.getfield 32, 3) := by decide +kernel
theorem dX11_send_79 : decode cX11_send 79 = .ok (.ldc_w 560, 3) := by decide +kernel
theorem dX11_send_82 : decode cX11_send 82 = .ok (.invokevirtual 297, 3) := by decide +kernel
theorem dX11_send_85 : decode cX11_send 85 = .ok (.aload_n 0, 1) := by decide +kernel
theorem dX11_send_86 : decode cX11_send 86 = .ok (.getfield 32, 3) := by decide +kernel
theorem dX11_send_89 : decode cX11_send 89 = .ok (.aload_n 0, 1) := by decide +kernel
theorem dX11_send_90 : decode cX11_send 90 = .ok (.getfield 35, 3) := by decide +kernel
theorem dX11_send_93 : decode cX11_send 93 = .ok (.getfield 92, 3) := by decide +kernel
theorem dX11_send_96 : decode cX11_send 96 = .ok (.invokevirtual 466, 3) := by decide +kernel
theorem dX11_send_99 : decode cX11_send 99 = .ok (.aload_n 0, 1) := by decide +kernel
theorem dX11_send_100 : decode cX11_send 100 = .ok (.getfield 32, 3) := by decide +kernel
theorem dX11_send_103 : decode cX11_send 103 = .ok (.ldc_w 562, 3) := by decide +kernel
theorem dX11_send_106 : decode cX11_send 106 = .ok (.invokevirtual 297, 3) := by decide +kernel
theorem dX11_send_109 : decode cX11_send 109 = .ok (.aload_n 0, 1) := by decide +kernel
theorem dX11_send_110 : decode cX11_send 110 = .ok (.getfield 32, 3) := by decide +kernel
theorem dX11_send_113 : decode cX11_send 113 = .ok (.aload_n 0, 1) := by decide +kernel
theorem dX11_send_114 : decode cX11_send 114 = .ok (.getfield 35, 3) := by decide +kernel
theorem dX11_send_117 : decode cX11_send 117 = .ok (.invokevirtual 495, 3) := by decide +kernel
theorem dX11_send_120 : decode cX11_send 120 = .ok (.return_, 1) := by decide +kernel
def EX11_send : List (Nat × Nat) := [(2, 0), (2, 1), (13, 14), (196, 0)]
set_option maxHeartbeats 4000000 in
set_option maxRecDepth 20000 in
theorem uX11_send (l : Launch) (dC : Nat → ClassId) (dI : Nat → Nat → Nat) (ca : Nat → ClassId) (base : Nat) (B : jF) (hB : jBok B) (hAp : jAp (dC, dI)) (hB2 : ∀ n G a H, B 2 n G a H ↔ jOb (dC, dI) 2 2 (F2 n G) a H) (hB4 : ∀ n G a H, B 4 n G a H ↔ jOb (dC, dI) 4 12 (F4 n G) a H) (hB13 : ∀ n G a H, B 13 n G a H ↔ jOb (dC, dI) 13 19 (F13 n G) a H) (hB17 : ∀ n G a H, B 17 n G a H ↔ jOb (dC, dI) 17 2 (F17 n G) a H) (hB196 : ∀ n G a H, B 196 n G a H ↔ jAr (dC, dI) (ca 0) (fun j z => jBf j z) n a H) (hB199 : ∀ n G a H, B 199 n G a H ↔ jAr (dC, dI) (ca 0) (fun j z => jBf j z) n a H) (G0 : jT) (H0 : Heap) (r0 : Nat) (bo : Nat) (pc : Int32) (pa : Nat) (n_pa : Nat) (ou : Nat) (po : Int32) (px : Nat) (n_px : Nat) : Met l yX11_send (jw yX11_send cX11_send 3 none) ({ frames := 5, cells := 0, slots := 0, locals := 163 }) (va_Pc [.ref r0] (fun U => U.heap = H0 ∧ jX B base G0 [] H0 ∧ jG dC dI ca base U ∧ G0 r0 = some (13, 0) ∧ G0 bo = some (2, 0) ∧ G0 pa = some (196, n_pa) ∧ G0 ou = some (2, 20000) ∧ G0 px = some (196, n_px) ∧ jP (dC, dI) G0 H0 [(r0, 13, 4, .ref bo), (bo, 2, 1, .int pc), (bo, 2, 0, .ref pa), (r0, 13, 3, .ref ou), (ou, 2, 1, .int po), (ou, 2, 0, .ref px)] ∧ jIs (dC, dI) G0 H0 [(jFy, jYb dC dI G0)] ∧ 0 ≤ pc.toInt ∧ pc.toInt ≤ n_pa ∧ n_pa ≤ 1048576 ∧ 0 ≤ po.toInt ∧ po.toInt ≤ 20000 ∧ n_px = 20000)) (va_Qv (S := Unit) (fun u => True) (fun u t => ((jRt (dC, dI) B base G0 EX11_send H0 [] t.heap) ∧ jOl (dC, dI) G0 2 [ou] H0 t.heap) ∧ jIs (dC, dI) G0 t.heap [(jFy, jYb dC dI G0)]) (jA base)) 0 0 (jA base) := by
  refine Met.ofW (cc := cX11_send) (maxL := 3) (ret := none) (by decide) rfl ?_
  intro p e s m args below meth c s₁ Bd hml hv
  obtain ⟨rfl, hH0, hX, hG, hg_r0, hg_bo, hg_pa, hg_ou, hg_px, hP0, hI0, hp0, hp1, hp2, hp3, hp4, hp5⟩ := hv
  have hK := hG.1
  have hx := Bd.exec
  have hb := Bd.bytes
  have hr := Bd.returns
  have hts := atoms_spec (ws := (jw yX11_send cX11_send 3 none)) Bd.pre
  have htw : ∀ w ∈ jWl, w.before _ s = true := fun w h => hts w (List.mem_cons_of_mem _ h)
  have hown : s.vm.findClass RX11 = some m.cls := findClass_of_methodNamed Bd.named
  have hlocks := Bd.notSynchronized
  obtain ⟨Q, hQ⟩ : ∃ Q, Q = MQ below (va_Qv (S := Unit) (fun u => True) (fun u t => ((jRt (dC, dI) B base G0 EX11_send H0 [] t.heap) ∧ jOl (dC, dI) G0 2 [ou] H0 t.heap) ∧ jIs (dC, dI) G0 t.heap [(jFy, jYb dC dI G0)]) (jA base)) ([.ref r0] : List Value).toArray s 0 0 (jA base) := ⟨_, rfl⟩
  rw [← hQ]
  have hl := lv_entry ([.ref r0]) (n := 3) (Nat.le_of_ble_eq_true rfl)
  rw [lg_entry_eq]
  generalize (lg_sl ([.ref r0]) ++ List.replicate (3 - (lg_sl ([.ref r0])).length) Slot.unset).toArray = ls at hl ⊢
  have hl : lv_has ls 3 [(0, .ref r0)] := hl
  generalize hR : (headSpec (jw yX11_send cX11_send 3 none) ({ frames := 5, cells := 0, slots := 0, locals := 163 })).room = R
  subst hH0
  have hh : jSt (dC, dI) B base G0 G0 EX11_send s.heap 0 0 [(r0, 13, 4, .ref bo), (bo, 2, 1, .int pc), (bo, 2, 0, .ref pa), (r0, 13, 3, .ref ou), (ou, 2, 1, .int po), (ou, 2, 0, .ref px)] [] [(jFy, jYb dC dI G0)] s.heap [] := jSt.start hX hP0 jMc.nil hI0
  clear hX hP0
  have hk0 : (0 : Int32).toInt = 0 := by decide
  have hk1 : (1 : Int32).toInt = 1 := by decide
  have hk10 : (10 : Int32).toInt = 10 := by decide
  have hk20 : (20 : Int32).toInt = 20 := by decide
  have hk20000 : (20000 : Int32).toInt = 20000 := by decide
  have hly_2_1 := htw (u_lay RX0 TX0 1) (jWc_wsX00 _ (u_in_lay (by decide)))
  have hly_4_4 := htw (u_lay RX2 TX2 4) (jWc_wsX20 _ (u_in_lay (by decide)))
  have hly_13_1 := htw (u_lay RX11 TX11 1) (jWc_wsX110 _ (u_in_lay (by decide)))
  have hly_13_3 := htw (u_lay RX11 TX11 3) (jWc_wsX110 _ (u_in_lay (by decide)))
  have hly_13_4 := htw (u_lay RX11 TX11 4) (jWc_wsX110 _ (u_in_lay (by decide)))
  have hly_13_14 := htw (u_lay RX11 TX11 14) (jWc_wsX110 _ (u_in_lay (by decide)))
  have hlk_21 := (htw (.fieldLink RX11 21 "ProofServer" "frames" "LProofServer$Frames;") (jWr_1 _ (List.mem_of_getElem? (i := 19) rfl)))
  have hlk_102 := (htw (.fieldLink RX11 102 "ProofServer$Frames" "broken" "Z") (jWr_17 _ (List.mem_of_getElem? (i := 8) rfl)))
  have hlk_35 := (htw (.fieldLink RX11 35 "ProofServer" "body" "LProofServer$Bytes;") (jWr_2 _ (List.mem_of_getElem? (i := 1) rfl)))
  have hlk_92 := (htw (.fieldLink RX11 92 "ProofServer$Bytes" "count" "I") (jWr_15 _ (List.mem_of_getElem? (i := 18) rfl)))
  have hlk_32 := (htw (.fieldLink RX11 32 "ProofServer" "output" "LProofServer$Bytes;") (jWr_2 _ (List.mem_of_getElem? (i := 0) rfl)))
  have hlk_151 := (htw (.fieldLink RX11 151 "ProofServer" "lost" "I") (jWr_27 _ (List.mem_of_getElem? (i := 0) rfl)))
  obtain ⟨str560, rstr560, hstr5600⟩ := hG.str (o := RX11) (k := 560) (tx := "Content-Length: ") (List.mem_of_getElem? (i := 850) (by decide +kernel))
  have hstr560 : jStr base str560 16 s s.heap := hstr5600
  obtain ⟨str562, rstr562, hstr5620⟩ := hG.str (o := RX11) (k := 562) (tx := "\r\n\r\n") (List.mem_of_getElem? (i := 851) (by decide +kernel))
  have hstr562 : jStr base str562 4 s s.heap := hstr5620
  have hh_1 := hh.addI (jOl.ie (dC := dC) (dI := dI) (G0 := G0) (k := 2) (rs := [ou]) (H0 := s.heap) (F := [(2, 0), (2, 1)]) (C := RX0) (T := TX0) (N := 2) rfl (by decide) hh.2.2.2.2.1 (jOl.rf))
  clear hh
  refine lv_aload_n hx hb dX11_send_0 rfl (lv_at hl 0 rfl) ?_
  obtain ⟨v_2, hv_2, hh_3⟩ := hh_1.pin (C := RX11) (T := TX11) (N := 19) hB13 rfl (by decide) hg_r0 (i := 1) (by decide) rfl
  clear hh_1
  obtain ⟨frames_4, rfl, hg_frames_4⟩ := hv_2
  refine j7_read hx hb hown hK (C := RX11) (T := TX11) (N := 19) rfl hly_13_1 hlk_21 (hh_3.at 0 rfl) dX11_send_1 ?_
  obtain ⟨v_5, hv_5, hh_6⟩ := hh_3.pin (C := RX2) (T := TX2) (N := 12) hB4 rfl (by decide) hg_frames_4 (i := 4) (by decide) rfl
  clear hh_3
  obtain ⟨broken_7, rfl, hzbroken_7⟩ := hv_5
  have hzbroken_7' := jb_01 hzbroken_7
  refine j7_read hx hb hown hK (C := RX2) (T := TX2) (N := 12) rfl hly_4_4 hlk_102 (hh_6.at 0 rfl) dX11_send_4 ?_
  refine lv_if_eq (tgt := 11) hx hb dX11_send_7 (by decide) (fun c_8 => ?_) (fun c_8 => ?_)
  · skip
    have c_8' : broken_7.toInt = 0 := jb_eq (rfl) ((by decide)) c_8
    refine lv_iconst (v := 1) hx hb dX11_send_11 (by decide) ?_
    refine lv_istore_n (lv' := [(1, .int 1), (0, .ref r0)]) hx hb dX11_send_12 rfl hl (by decide) rfl (fun ls hl => ?_)
    refine lv_aload_n hx hb dX11_send_13 rfl (lv_at hl 1 rfl) ?_
    refine j7_read hx hb hown hK (C := RX11) (T := TX11) (N := 19) rfl hly_13_4 hlk_35 (hh_6.at 2 rfl) dX11_send_14 ?_
    refine j7_read hx hb hown hK (C := RX0) (T := TX0) (N := 2) rfl hly_2_1 hlk_92 (hh_6.at 3 rfl) dX11_send_17 ?_
    refine lv_istore_n (lv' := [(2, .int pc), (1, .int 1), (0, .ref r0)]) hx hb dX11_send_20 rfl hl (by decide) rfl (fun ls hl => ?_)
    have L21 : ∀ (N : Nat) (v1_9 : Int32) (v2_9 : Int32) (H_9 : Heap) (locs_9 : List Loc), jSt (dC, dI) B base G0 G0 EX11_send s.heap 0 0 [(frames_4, 4, 4, .int broken_7), (r0, 13, 1, .ref frames_4), (r0, 13, 4, .ref bo), (bo, 2, 1, .int pc), (bo, 2, 0, .ref pa), (r0, 13, 3, .ref ou), (ou, 2, 1, .int po), (ou, 2, 0, .ref px)] [] [([(2, 0), (2, 1)], jOl (dC, dI) G0 2 [ou] s.heap), (jFy, jYb dC dI G0)] H_9 locs_9 → (0 ≤ v2_9.toInt ∧ jDi pc.toInt v2_9.toInt v1_9.toInt) → (v2_9.toInt : Int) < N → ∀ ls : Array Slot, lv_has ls 3 [(0, .ref r0), (1, .int v1_9), (2, .int v2_9)] → W p l e R s m ([.ref r0] : List Value).toArray below meth c H_9 locs_9 0 0 Q (F0 m 21 ls []) := by
      intro N
      induction N with
      | zero => intro v1_9 v2_9 H_9 locs_9 hh_9  hi_9 hm; exact absurd hm (by omega)
      | succ N L21 =>
        intro v1_9 v2_9 H_9 locs_9 hh_9  hi_9 hm_9 ls hl
        obtain ⟨hi_9_0, hi_9_1⟩ := hi_9
        have hd1 := hi_9_1.bd
        refine lv_iload_n hx hb dX11_send_21 rfl (lv_at hl 2 rfl) ?_
        refine lv_bipush (v := 10) hx hb dX11_send_22 (by decide) ?_
        refine lv_icmp_lt (tgt := 38) hx hb dX11_send_24 (by decide) (fun c_10 => ?_) (fun c_10 => ?_)
        · skip
          have c_10' : v2_9.toInt < 10 := jb_lt (rfl) ((by decide)) c_10
          have hdc := hi_9_1.end (by omega)
          refine lv_aload_n hx hb dX11_send_38 rfl (lv_at hl 0 rfl) ?_
          refine j7_read hx hb hown hK (C := RX11) (T := TX11) (N := 19) rfl hly_13_3 hlk_32 (hh_9.at 5 rfl) dX11_send_39 ?_
          refine j7_read hx hb hown hK (C := RX0) (T := TX0) (N := 2) rfl hly_2_1 hlk_92 (hh_9.at 6 rfl) dX11_send_42 ?_
          refine lv_bipush (v := 20) hx hb dX11_send_45 (by decide) ?_
          refine lv_iadd hx hb dX11_send_47 ?_
          refine lv_topi (fun z_11 ez_11 => ?_)
          have hz_11 : z_11.toInt = po.toInt + 20 := by rw [ez_11]; exact jb_iadd2 (rfl) ((by decide)) (by omega)
          refine lv_iload_n hx hb dX11_send_48 rfl (lv_at hl 1 rfl) ?_
          refine lv_iadd hx hb dX11_send_49 ?_
          refine lv_topi (fun z_12 ez_12 => ?_)
          have hz_12 : z_12.toInt = z_11.toInt + v1_9.toInt := by rw [ez_12]; exact jb_iadd2 (rfl) (rfl) (by omega)
          refine lv_aload_n hx hb dX11_send_50 rfl (lv_at hl 0 rfl) ?_
          refine j7_read hx hb hown hK (C := RX11) (T := TX11) (N := 19) rfl hly_13_4 hlk_35 (hh_9.at 2 rfl) dX11_send_51 ?_
          refine j7_read hx hb hown hK (C := RX0) (T := TX0) (N := 2) rfl hly_2_1 hlk_92 (hh_9.at 3 rfl) dX11_send_54 ?_
          refine lv_iadd hx hb dX11_send_57 ?_
          refine lv_topi (fun z_13 ez_13 => ?_)
          have hz_13 : z_13.toInt = z_12.toInt + pc.toInt := by rw [ez_13]; exact jb_iadd2 (rfl) (rfl) (by omega)
          refine lv_sipush (v := 20000) hx hb dX11_send_58 (by decide) ?_
          refine lv_icmp_le (tgt := 75) hx hb dX11_send_61 (by decide) (fun c_14 => ?_) (fun c_14 => ?_)
          · skip
            have c_14' : z_13.toInt ≤ 20000 := jb_le (rfl) ((by decide)) c_14
            refine lv_aload_n hx hb dX11_send_75 rfl (lv_at hl 0 rfl) ?_
            refine j7_read hx hb hown hK (C := RX11) (T := TX11) (N := 19) rfl hly_13_3 hlk_32 (hh_9.at 5 rfl) dX11_send_76 ?_
            refine j_ldcSw hx hb hown rstr560 dX11_send_79 ?_
            refine va_callv (A0 := jA base) (H0 := s.heap) (va_runV (As := [.ref str560]) (rest := []) ⟨hx, hb, hml, hown, hts⟩ (uX0_textF l dC dI ca base B hB hAp hB2 hB196 G0 H_9 ou str560 16 20000 po px n_px) (cwV 1 hts (jgV (jWr_26 _ (List.mem_of_getElem? (i := 11) rfl)) (jWr_25 _ (List.mem_of_getElem? (i := 22) rfl)) (jWr_25 _ (List.mem_of_getElem? (i := 23) rfl)) (jWr_1 _ (List.mem_of_getElem? (i := 14) rfl)) (jWr_26 _ (List.mem_of_getElem? (i := 0) rfl))) rfl rfl rfl (by decide +kernel) ⟨by rw [← hR]; exact Nat.le_of_ble_eq_true rfl, by rw [← hR]; exact Nat.le_of_ble_eq_true rfl⟩) ⟨fun a U g mk q => by obtain ⟨q0, q1, q2, qK, q10, q11, q12, q13, q14⟩ := q; exact ⟨q0, q1, q2, jG.calling g mk a qK, (q10.moved (Vm.Alike.refl U.vm)), q11, q12, q13, q14⟩, hh_9.recv (C := RX0) (T := TX0) (N := 2) hB2 rfl (by decide) hg_ou hK, fun U hU hW => ⟨rfl, hU, hh_9.2.1, hG.step hW hU hh_9.1, (hstr560.moved hW.alike).kept hh_9.1.2.1, hg_ou, hg_px, (hh_9.2.2.1.sub (L1 := [(ou, 2, 1, .int po), (ou, 2, 0, .ref px)]) [6, 7] rfl), by first | omega | (refine ⟨?_, ?_, ?_, ?_, ?_⟩ <;> (first | omega | rfl | assumption | decide | exact Or.inl rfl | exact Or.inr rfl | (simp only; omega)))⟩⟩ rfl rfl hl.1 rfl (lv_room (Nat.le_of_ble_eq_true rfl)) dX11_send_82 ⟨Nat.zero_le _, Nat.zero_le _⟩) hh_9.1 (fun q _ h => h) (fun q h => h) (fun u_15 t_15 H_15 locs_15 ht_15 hvm_15 hr_16 hb_15 hz_15 hk_15 hS_15 => ?_)
            obtain ⟨qc_15, rfl⟩ : ∃ z, z = u_15 := ⟨_, rfl⟩
            rw [ht_15] at hb_15
            have hy_17 := hh_9.iv 1 rfl
            obtain ⟨hb_15, hbO_15⟩ := hb_15
            obtain ⟨hb_151, hb_152, hb_153, hb_154, hb_155⟩ := hb_15
            have hh_15 : jSt (dC, dI) B base G0 G0 EX11_send s.heap 0 0 [(ou, 2, 1, .int qc_15), (frames_4, 4, 4, .int broken_7), (r0, 13, 1, .ref frames_4), (r0, 13, 4, .ref bo), (bo, 2, 0, .ref pa), (r0, 13, 3, .ref ou), (ou, 2, 0, .ref px)] [] [] H_15 locs_15 := ((hh_9.call hb_151 hb_152 hb_153 hb_154 hS_15 rfl (L1 := [(frames_4, 4, 4, .int broken_7), (r0, 13, 1, .ref frames_4), (r0, 13, 4, .ref bo), (bo, 2, 0, .ref pa), (r0, 13, 3, .ref ou), (ou, 2, 0, .ref px)]) [0, 1, 2, 4, 5, 7] rfl rfl (M1 := []) [] rfl rfl (I1 := []) [] rfl rfl).more hb_155)
            have hh_18 := hh_15.more (P1 := [(bo, 2, 1, .int pc)]) (jP.cons hg_bo (hbO_15 _ _ _ _ (by first | assumption | exact Ne.symm (by assumption) | exact jnek hg_bo hg_ou (by decide)) hg_bo (hh_9.at 3 rfl)) jP.nil)
            have hd_19 := jOl.trO (hh_9.iv 0 rfl) hh_9.2.2.2.2.1 hbO_15 (by simp)
            have hh_20 := hh_18.addI (jOl.ie (dC := dC) (dI := dI) (G0 := G0) (k := 2) (rs := [ou]) (H0 := s.heap) (F := [(2, 0), (2, 1)]) (C := RX0) (T := TX0) (N := 2) rfl (by decide) hh_18.2.2.2.2.1 (hd_19))
            clear hh_18
            clear hh_9 ht_15 hvm_15 hz_15 hk_15 hS_15 hb_151 hb_152 hb_153 hb_154 hb_155
            have hy_21 := jYb.own hy_17 hbO_15 jLe.rf (ks := [2]) jNk.rf (by decide) (fun h => absurd (hg_ou.symm.trans h) (by decide))
            have hh_22 := hh_20.addI (jYb.ie hy_21)
            clear hh_20
            refine lv_aload_n hx hb dX11_send_85 rfl (lv_at hl 0 rfl) ?_
            refine j7_read hx hb hown hK (C := RX11) (T := TX11) (N := 19) rfl hly_13_3 hlk_32 (hh_22.at 6 rfl) dX11_send_86 ?_
            refine lv_aload_n hx hb dX11_send_89 rfl (lv_at hl 0 rfl) ?_
            refine j7_read hx hb hown hK (C := RX11) (T := TX11) (N := 19) rfl hly_13_4 hlk_35 (hh_22.at 4 rfl) dX11_send_90 ?_
            refine j7_read hx hb hown hK (C := RX0) (T := TX0) (N := 2) rfl hly_2_1 hlk_92 (hh_22.at 0 rfl) dX11_send_93 ?_
            refine va_callv (A0 := jA base) (H0 := s.heap) (va_runV (As := [.int pc]) (rest := []) ⟨hx, hb, hml, hown, hts⟩ (uX0_numberF l dC dI ca base B hB hAp hB2 hB196 G0 H_15 ou pc 20000 qc_15 px n_px) (cwV 1 hts (jgV (jWr_26 _ (List.mem_of_getElem? (i := 16) rfl)) (jWr_24 _ (List.mem_of_getElem? (i := 16) rfl)) (jWr_24 _ (List.mem_of_getElem? (i := 17) rfl)) (jWr_1 _ (List.mem_of_getElem? (i := 14) rfl)) (jWr_24 _ (List.mem_of_getElem? (i := 18) rfl))) rfl rfl rfl (by decide +kernel) ⟨by rw [← hR]; exact Nat.le_of_ble_eq_true rfl, by rw [← hR]; exact Nat.le_of_ble_eq_true rfl⟩) ⟨fun a U g mk q => by obtain ⟨q0, q1, q2, qK, q10, q11, q12, q13⟩ := q; exact ⟨q0, q1, q2, jG.calling g mk a qK, q10, q11, q12, q13⟩, hh_22.recv (C := RX0) (T := TX0) (N := 2) hB2 rfl (by decide) hg_ou hK, fun U hU hW => ⟨rfl, hU, hh_22.2.1, hG.step hW hU hh_22.1, hg_ou, hg_px, (hh_22.2.2.1.sub (L1 := [(ou, 2, 1, .int qc_15), (ou, 2, 0, .ref px)]) [1, 7] rfl), ⟨(by first | omega | rfl | assumption | exact hdc.np (by omega)), (by first | omega | rfl | assumption | exact hdc.np (by omega)), (by first | omega | rfl | assumption | exact hdc.np (by omega)), (by first | omega | rfl | assumption | exact hdc.np (by omega)), (by first | omega | rfl | assumption | exact hdc.np (by omega)), (by first | assumption | exact hdc.np (by omega) | omega)⟩⟩⟩ rfl rfl hl.1 rfl (lv_room (Nat.le_of_ble_eq_true rfl)) dX11_send_96 ⟨Nat.zero_le _, Nat.zero_le _⟩) hh_22.1 (fun q _ h => h) (fun q h => h) (fun u_23 t_23 H_23 locs_23 ht_23 hvm_23 hr_24 hb_23 hz_23 hk_23 hS_23 => ?_)
            obtain ⟨qc_23, rfl⟩ : ∃ z, z = u_23 := ⟨_, rfl⟩
            rw [ht_23] at hb_23
            have hy_25 := hh_22.iv 0 rfl
            obtain ⟨hb_23, hbO_23⟩ := hb_23
            obtain ⟨hb_231, hb_232, hb_233, hb_234, hb_235⟩ := hb_23
            have hh_23 : jSt (dC, dI) B base G0 G0 EX11_send s.heap 0 0 [(ou, 2, 1, .int qc_23), (frames_4, 4, 4, .int broken_7), (r0, 13, 1, .ref frames_4), (r0, 13, 4, .ref bo), (bo, 2, 0, .ref pa), (r0, 13, 3, .ref ou), (ou, 2, 0, .ref px)] [] [] H_23 locs_23 := ((hh_22.call hb_231 hb_232 hb_233 hb_234 hS_23 rfl (L1 := [(frames_4, 4, 4, .int broken_7), (r0, 13, 1, .ref frames_4), (r0, 13, 4, .ref bo), (bo, 2, 0, .ref pa), (r0, 13, 3, .ref ou), (ou, 2, 0, .ref px)]) [2, 3, 4, 5, 6, 7] rfl rfl (M1 := []) [] rfl rfl (I1 := []) [] rfl rfl).more hb_235)
            have hh_26 := hh_23.more (P1 := [(bo, 2, 1, .int pc)]) (jP.cons hg_bo (hbO_23 _ _ _ _ (by first | assumption | exact Ne.symm (by assumption) | exact jnek hg_bo hg_ou (by decide)) hg_bo (hh_22.at 0 rfl)) jP.nil)
            have hd_27 := jOl.trO (hh_22.iv 1 rfl) hh_22.2.2.2.2.1 hbO_23 (by simp)
            have hh_28 := hh_26.addI (jOl.ie (dC := dC) (dI := dI) (G0 := G0) (k := 2) (rs := [ou]) (H0 := s.heap) (F := [(2, 0), (2, 1)]) (C := RX0) (T := TX0) (N := 2) rfl (by decide) hh_26.2.2.2.2.1 (hd_27))
            clear hh_26
            clear hh_22 ht_23 hvm_23 hz_23 hk_23 hS_23 hb_231 hb_232 hb_233 hb_234 hb_235
            have hy_29 := jYb.own hy_25 hbO_23 jLe.rf (ks := [2]) jNk.rf (by decide) (fun h => absurd (hg_ou.symm.trans h) (by decide))
            have hh_30 := hh_28.addI (jYb.ie hy_29)
            clear hh_28
            obtain ⟨hr_24_0, hr_24_1, hr_24_2, hr_24_3, hr_24_4, hr_24_5, hr_24_6, hr_24_7⟩ := hr_24
            have hq9 := hdc.end hr_24_1 hr_24_2 hr_24_3 hr_24_4 hr_24_5 hr_24_6 hr_24_7
            clear hr_24_1 hr_24_2 hr_24_3 hr_24_4 hr_24_5 hr_24_6 hr_24_7
            refine lv_aload_n hx hb dX11_send_99 rfl (lv_at hl 0 rfl) ?_
            refine j7_read hx hb hown hK (C := RX11) (T := TX11) (N := 19) rfl hly_13_3 hlk_32 (hh_30.at 6 rfl) dX11_send_100 ?_
            refine j_ldcSw hx hb hown rstr562 dX11_send_103 ?_
            refine va_callv (A0 := jA base) (H0 := s.heap) (va_runV (As := [.ref str562]) (rest := []) ⟨hx, hb, hml, hown, hts⟩ (uX0_textF l dC dI ca base B hB hAp hB2 hB196 G0 H_23 ou str562 4 20000 qc_23 px n_px) (cwV 1 hts (jgV (jWr_26 _ (List.mem_of_getElem? (i := 11) rfl)) (jWr_25 _ (List.mem_of_getElem? (i := 22) rfl)) (jWr_25 _ (List.mem_of_getElem? (i := 23) rfl)) (jWr_1 _ (List.mem_of_getElem? (i := 14) rfl)) (jWr_26 _ (List.mem_of_getElem? (i := 0) rfl))) rfl rfl rfl (by decide +kernel) ⟨by rw [← hR]; exact Nat.le_of_ble_eq_true rfl, by rw [← hR]; exact Nat.le_of_ble_eq_true rfl⟩) ⟨fun a U g mk q => by obtain ⟨q0, q1, q2, qK, q10, q11, q12, q13, q14⟩ := q; exact ⟨q0, q1, q2, jG.calling g mk a qK, (q10.moved (Vm.Alike.refl U.vm)), q11, q12, q13, q14⟩, hh_30.recv (C := RX0) (T := TX0) (N := 2) hB2 rfl (by decide) hg_ou hK, fun U hU hW => ⟨rfl, hU, hh_30.2.1, hG.step hW hU hh_30.1, (hstr562.moved hW.alike).kept hh_30.1.2.1, hg_ou, hg_px, (hh_30.2.2.1.sub (L1 := [(ou, 2, 1, .int qc_23), (ou, 2, 0, .ref px)]) [1, 7] rfl), by first | omega | (refine ⟨?_, ?_, ?_, ?_, ?_⟩ <;> (first | omega | rfl | assumption | decide | exact Or.inl rfl | exact Or.inr rfl | (simp only; omega)))⟩⟩ rfl rfl hl.1 rfl (lv_room (Nat.le_of_ble_eq_true rfl)) dX11_send_106 ⟨Nat.zero_le _, Nat.zero_le _⟩) hh_30.1 (fun q _ h => h) (fun q h => h) (fun u_31 t_31 H_31 locs_31 ht_31 hvm_31 hr_32 hb_31 hz_31 hk_31 hS_31 => ?_)
            obtain ⟨qc_31, rfl⟩ : ∃ z, z = u_31 := ⟨_, rfl⟩
            rw [ht_31] at hb_31
            have hy_33 := hh_30.iv 0 rfl
            obtain ⟨hb_31, hbO_31⟩ := hb_31
            obtain ⟨hb_311, hb_312, hb_313, hb_314, hb_315⟩ := hb_31
            have hh_31 : jSt (dC, dI) B base G0 G0 EX11_send s.heap 0 0 [(ou, 2, 1, .int qc_31), (frames_4, 4, 4, .int broken_7), (r0, 13, 1, .ref frames_4), (r0, 13, 4, .ref bo), (bo, 2, 0, .ref pa), (r0, 13, 3, .ref ou), (ou, 2, 0, .ref px)] [] [] H_31 locs_31 := ((hh_30.call hb_311 hb_312 hb_313 hb_314 hS_31 rfl (L1 := [(frames_4, 4, 4, .int broken_7), (r0, 13, 1, .ref frames_4), (r0, 13, 4, .ref bo), (bo, 2, 0, .ref pa), (r0, 13, 3, .ref ou), (ou, 2, 0, .ref px)]) [2, 3, 4, 5, 6, 7] rfl rfl (M1 := []) [] rfl rfl (I1 := []) [] rfl rfl).more hb_315)
            have hh_34 := hh_31.more (P1 := [(bo, 2, 1, .int pc)]) (jP.cons hg_bo (hbO_31 _ _ _ _ (by first | assumption | exact Ne.symm (by assumption) | exact jnek hg_bo hg_ou (by decide)) hg_bo (hh_30.at 0 rfl)) jP.nil)
            have hd_35 := jOl.trO (hh_30.iv 1 rfl) hh_30.2.2.2.2.1 hbO_31 (by simp)
            have hh_36 := hh_34.addI (jOl.ie (dC := dC) (dI := dI) (G0 := G0) (k := 2) (rs := [ou]) (H0 := s.heap) (F := [(2, 0), (2, 1)]) (C := RX0) (T := TX0) (N := 2) rfl (by decide) hh_34.2.2.2.2.1 (hd_35))
            clear hh_34
            clear hh_30 ht_31 hvm_31 hz_31 hk_31 hS_31 hb_311 hb_312 hb_313 hb_314 hb_315
            have hy_37 := jYb.own hy_33 hbO_31 jLe.rf (ks := [2]) jNk.rf (by decide) (fun h => absurd (hg_ou.symm.trans h) (by decide))
            have hh_38 := hh_36.addI (jYb.ie hy_37)
            clear hh_36
            refine lv_aload_n hx hb dX11_send_109 rfl (lv_at hl 0 rfl) ?_
            refine j7_read hx hb hown hK (C := RX11) (T := TX11) (N := 19) rfl hly_13_3 hlk_32 (hh_38.at 6 rfl) dX11_send_110 ?_
            refine lv_aload_n hx hb dX11_send_113 rfl (lv_at hl 0 rfl) ?_
            refine j7_read hx hb hown hK (C := RX11) (T := TX11) (N := 19) rfl hly_13_4 hlk_35 (hh_38.at 4 rfl) dX11_send_114 ?_
            refine va_callv (A0 := jA base) (H0 := s.heap) (va_runV (As := [.ref bo]) (rest := []) ⟨hx, hb, hml, hown, hts⟩ (uX0_appendF l dC dI ca base B hB hAp hB2 hB17 hB196 hB199 G0 H_31 ou bo 20000 qc_31 px n_px pc pa n_pa) (cwV 1 hts (jgV (jWr_26 _ (List.mem_of_getElem? (i := 12) rfl)) (jWr_26 _ (List.mem_of_getElem? (i := 13) rfl)) (jWr_26 _ (List.mem_of_getElem? (i := 14) rfl)) (jWr_1 _ (List.mem_of_getElem? (i := 14) rfl)) (jWr_26 _ (List.mem_of_getElem? (i := 15) rfl))) rfl rfl rfl (by decide +kernel) ⟨by rw [← hR]; exact Nat.le_of_ble_eq_true rfl, by rw [← hR]; exact Nat.le_of_ble_eq_true rfl⟩) ⟨fun a U g mk q => by obtain ⟨q0, q1, q2, qK, q10, q11, q12, q13, q14, q15⟩ := q; exact ⟨q0, q1, q2, jG.calling g mk a qK, q10, q11, q12, q13, q14, q15⟩, hh_38.recv (C := RX0) (T := TX0) (N := 2) hB2 rfl (by decide) hg_ou hK, fun U hU hW => ⟨rfl, hU, hh_38.2.1, hG.step hW hU hh_38.1, hg_ou, hg_bo, hg_px, hg_pa, (hh_38.2.2.1.sub (L1 := [(ou, 2, 1, .int qc_31), (ou, 2, 0, .ref px), (bo, 2, 1, .int pc), (bo, 2, 0, .ref pa)]) [1, 7, 0, 5] rfl), by first | omega | (refine ⟨?_, ?_, ?_, ?_, ?_, ?_, ?_, ?_⟩ <;> (first | omega | rfl | assumption | decide | exact Or.inl rfl | exact Or.inr rfl | (simp only; omega)))⟩⟩ rfl rfl hl.1 rfl (lv_room (Nat.le_of_ble_eq_true rfl)) dX11_send_117 ⟨Nat.zero_le _, Nat.zero_le _⟩) hh_38.1 (fun q _ h => h) (fun q h => h) (fun u_39 t_39 H_39 locs_39 ht_39 hvm_39 hr_40 hb_39 hz_39 hk_39 hS_39 => ?_)
            obtain ⟨qc_39, rfl⟩ : ∃ z, z = u_39 := ⟨_, rfl⟩
            rw [ht_39] at hb_39
            have hy_41 := hh_38.iv 0 rfl
            obtain ⟨hb_39, hbO_39⟩ := hb_39
            obtain ⟨hb_391, hb_392, hb_393, hb_394, hb_395⟩ := hb_39
            have hh_39 : jSt (dC, dI) B base G0 G0 EX11_send s.heap 0 0 [(ou, 2, 1, .int qc_39), (frames_4, 4, 4, .int broken_7), (r0, 13, 1, .ref frames_4), (r0, 13, 4, .ref bo), (bo, 2, 0, .ref pa), (r0, 13, 3, .ref ou), (ou, 2, 0, .ref px)] [] [] H_39 locs_39 := ((hh_38.call hb_391 hb_392 hb_393 hb_394 hS_39 rfl (L1 := [(frames_4, 4, 4, .int broken_7), (r0, 13, 1, .ref frames_4), (r0, 13, 4, .ref bo), (bo, 2, 0, .ref pa), (r0, 13, 3, .ref ou), (ou, 2, 0, .ref px)]) [2, 3, 4, 5, 6, 7] rfl rfl (M1 := []) [] rfl rfl (I1 := []) [] rfl rfl).more hb_395)
            have hh_42 := hh_39.more (P1 := [(bo, 2, 1, .int pc)]) (jP.cons hg_bo (hbO_39 _ _ _ _ (by first | assumption | exact Ne.symm (by assumption) | exact jnek hg_bo hg_ou (by decide)) hg_bo (hh_38.at 0 rfl)) jP.nil)
            have hd_43 := jOl.trO (hh_38.iv 1 rfl) hh_38.2.2.2.2.1 hbO_39 (by simp)
            have hh_44 := hh_42.addI (jOl.ie (dC := dC) (dI := dI) (G0 := G0) (k := 2) (rs := [ou]) (H0 := s.heap) (F := [(2, 0), (2, 1)]) (C := RX0) (T := TX0) (N := 2) rfl (by decide) hh_42.2.2.2.2.1 (hd_43))
            clear hh_42
            clear hh_38 ht_39 hvm_39 hz_39 hk_39 hS_39 hb_391 hb_392 hb_393 hb_394 hb_395
            have hy_45 := jYb.own hy_41 hbO_39 jLe.rf (ks := [2]) jNk.rf (by decide) (fun h => absurd (hg_ou.symm.trans h) (by decide))
            have hh_46 := hh_44.addI (jYb.ie hy_45)
            clear hh_44
            rw [hQ]
            exact W.vret hx hb hr (fun t ht hW => ⟨⟨(), rfl, trivial, ⟨⟨hh_46.rt (M1 := []) [] rfl ht, by rw [ht]; exact hh_46.iv 1 rfl⟩, by rw [ht]; exact hh_46.2.2.2.2.2.2.2.2.sub (L1 := [(jFy, jYb dC dI G0)]) [0] rfl⟩⟩, by rw [ht]; try exact hh_46.1.1, fun q h9 hq => by rw [ht]; try exact hh_46.1.2.1 q h9 hq⟩) hh_46.1.2.2 dX11_send_120
          · skip
            have c_14' : z_13.toInt > 20000 := jb_le_n (rfl) ((by decide)) c_14
            refine lv_aload_n hx hb dX11_send_64 rfl (lv_at hl 0 rfl) ?_
            refine lv_dup hx hb dX11_send_65 rfl ?_
            obtain ⟨v_47, hv_47, hh_48⟩ := hh_9.pin (C := RX11) (T := TX11) (N := 19) hB13 rfl (by decide) hg_r0 (i := 14) (by decide) rfl
            clear hh_9
            obtain ⟨lost_49, rfl⟩ := hv_47
            refine j7_read hx hb hown hK (C := RX11) (T := TX11) (N := 19) rfl hly_13_14 hlk_151 (hh_48.at 0 rfl) dX11_send_66 ?_
            refine lv_iconst (v := 1) hx hb dX11_send_69 (by decide) ?_
            refine lv_iadd hx hb dX11_send_70 ?_
            refine lv_topi (fun z_50 ez_50 => ?_)
            refine j7_put hx hb hown hK hh_48 hB hAp hB13 (C := RX11) (T := TX11) (N := 19) rfl (by decide) hg_r0 (i := 14) (by decide) hly_13_14 rfl hlk_151 rfl (ty := .int) (v := .int z_50) (by decide +kernel) rfl rfl (⟨_, rfl⟩) rfl (L1 := [(frames_4, 4, 4, .int broken_7), (r0, 13, 1, .ref frames_4), (r0, 13, 4, .ref bo), (bo, 2, 1, .int pc), (bo, 2, 0, .ref pa), (r0, 13, 3, .ref ou), (ou, 2, 1, .int po), (ou, 2, 0, .ref px)]) [1, 2, 3, 4, 5, 6, 7, 8] rfl rfl rfl dX11_send_71 (fun H_51 locs_51 hh_51 => ?_)
            clear hh_48
            rw [hQ]
            exact W.vret hx hb hr (fun t ht hW => ⟨⟨(), rfl, trivial, ⟨⟨hh_51.rt (M1 := []) [] rfl ht, by rw [ht]; exact hh_51.iv 0 rfl⟩, by rw [ht]; exact hh_51.2.2.2.2.2.2.2.2.sub (L1 := [(jFy, jYb dC dI G0)]) [1] rfl⟩⟩, by rw [ht]; try exact hh_51.1.1, fun q h9 hq => by rw [ht]; try exact hh_51.1.2.1 q h9 hq⟩) hh_51.1.2.2 dX11_send_74
        · skip
          have c_10' : v2_9.toInt ≥ 10 := jb_lt_n (rfl) ((by decide)) c_10
          obtain ⟨z_52, ez_52⟩ : ∃ y : Int32, y = v1_9 + 1 := ⟨_, rfl⟩
          refine lv_iinc (v := z_52) (lv' := [(1, .int z_52), (0, .ref r0), (2, .int v2_9)]) hx hb dX11_send_27 hl (k := 1) rfl (by rw [ez_52]; rfl) (by decide) rfl (fun ls hl => ?_)
          have hz_52 : z_52.toInt = v1_9.toInt + 1 := by rw [ez_52]; exact jb_iadd2 (rfl) (by decide) (by omega)
          refine lv_iload_n hx hb dX11_send_30 rfl (lv_at hl 2 rfl) ?_
          refine lv_bipush (v := 10) hx hb dX11_send_31 (by decide) ?_
          refine lv_idiv hx hb dX11_send_33 (by decide) ?_
          refine lv_topi (fun z_53 ez_53 => ?_)
          have hz_53 := jb_idiv (n := 10) ez_53 (by decide) (by decide)
          refine lv_istore_n (lv' := [(2, .int z_53), (1, .int z_52), (0, .ref r0)]) hx hb dX11_send_34 rfl hl (by decide) rfl (fun ls hl => ?_)
          refine lv_goto (tgt := 21) hx hb dX11_send_35 (by decide) ?_
          exact L21 z_52 z_53 _ _ hh_9 (by refine ⟨by omega, ?_⟩; exact hi_9_1.step (by omega) (by omega) (by omega) (by omega)) (by omega) _ (lv_sub hl [2, 1, 0] rfl)
    exact L21 ((pc : Int32).toInt : Int).toNat.succ 1 pc _ _ hh_6 (by refine ⟨by omega, ?_⟩; rw [hk1]; exact jDi.start) (by omega) _ (lv_sub hl [2, 1, 0] rfl)
  · skip
    have c_8' : broken_7.toInt ≠ 0 := jb_eq_n (rfl) ((by decide)) c_8
    rw [hQ]
    exact W.vret hx hb hr (fun t ht hW => ⟨⟨(), rfl, trivial, ⟨⟨hh_6.rt (M1 := []) [] rfl ht, by rw [ht]; exact hh_6.iv 0 rfl⟩, by rw [ht]; exact hh_6.2.2.2.2.2.2.2.2.sub (L1 := [(jFy, jYb dC dI G0)]) [1] rfl⟩⟩, by rw [ht]; try exact hh_6.1.1, fun q h9 hq => by rw [ht]; try exact hh_6.1.2.1 q h9 hq⟩) hh_6.1.2.2 dX11_send_10
end
