theorem dX11_beginAnswer_0 : decode cX11_beginAnswer 0 = .ok (.aload_n 0, 1) := by decide +kernel
theorem dX11_beginAnswer_1 : decode cX11_beginAnswer 1 = .ok (.getfield 35, 3) := by decide +kernel
theorem dX11_beginAnswer_4 : decode cX11_beginAnswer 4 = .ok (.iconst 0, 1) := by decide +kernel
theorem dX11_beginAnswer_5 : decode cX11_beginAnswer 5 = .ok (.putfield 92, 3) := by decide +kernel
theorem dX11_beginAnswer_8 : decode cX11_beginAnswer 8 = .ok (.aload_n 0, 1) := by decide +kernel
theorem dX11_beginAnswer_9 : decode cX11_beginAnswer 9 = .ok (.getfield 35, 3) := by decide +kernel
theorem dX11_beginAnswer_12 : decode cX11_beginAnswer 12 = .ok (.ldc_w 491, 3) := by decide +kernel
theorem dX11_beginAnswer_15 : decode cX11_beginAnswer 15 = .ok (.invokevirtual 297, 3) := by decide +kernel
theorem dX11_beginAnswer_18 : decode cX11_beginAnswer 18 = .ok (.aload_n 1, 1) := by decide +kernel
theorem dX11_beginAnswer_19 : decode cX11_beginAnswer 19 = .ok (.getfield 114, 3) := by decide +kernel
theorem dX11_beginAnswer_22 : decode cX11_beginAnswer 22 = .ok (.ifnonnull 16, 3) := by decide +kernel
theorem dX11_beginAnswer_25 : decode cX11_beginAnswer 25 = .ok (.aload_n 0, 1) := by decide +kernel
theorem dX11_beginAnswer_26 : decode cX11_beginAnswer 26 = .ok (.getfield 35, 3) := by decide +kernel
theorem dX11_beginAnswer_29 : decode cX11_beginAnswer 29 = .ok (.ldc_w 493, 3) := by decide +kernel
theorem dX11_beginAnswer_32 : decode cX11_beginAnswer 32 = .ok (.invokevirtual 297, 3) := by decide +kernel
theorem dX11_beginAnswer_35 : decode cX11_beginAnswer 35 = .ok (.goto 14, 3) := by decide +kernel
theorem dX11_beginAnswer_38 : decode cX11_beginAnswer 38 = .ok (.aload_n 0, 1) := by decide +kernel
theorem dX11_beginAnswer_39 : decode cX11_beginAnswer 39 = .ok (.getfield 35, 3) := by decide +kernel
theorem dX11_beginAnswer_42 : decode cX11_beginAnswer 42 = .ok (.aload_n 1, 1) := by decide +kernel
theorem dX11_beginAnswer_43 : decode cX11_beginAnswer 43 = .ok (.getfield 114, 3) := by decide +kernel
theorem dX11_beginAnswer_46 : decode cX11_beginAnswer 46 = .ok (.invokevirtual 495, 3) := by decide +kernel
theorem dX11_beginAnswer_49 : decode cX11_beginAnswer 49 = .ok (.aload_n 0, 1) := by decide +kernel
theorem dX11_beginAnswer_50 : decode cX11_beginAnswer 50 = .ok (.getfield 35, 3) := by decide +kernel
theorem dX11_beginAnswer_53 : decode cX11_beginAnswer 53 = .ok (.aload_n 2, 1) := by decide +kernel
theorem dX11_beginAnswer_54 : decode cX11_beginAnswer 54 = .ok (.invokevirtual 297, 3) := by decide +kernel
theorem dX11_beginAnswer_57 : decode cX11_beginAnswer 57 = .ok (.return_, 1) := by decide +kernel
theorem dX11_diagnostic_0 : decode cX11_diagnostic 0 = .ok (.aload_n 0, 1) := by decide +kernel
theorem dX11_diagnostic_1 : decode cX11_diagnostic 1 = .ok (.getfield 35, 3) := by decide +kernel
theorem dX11_diagnostic_4 : decode cX11_diagnostic 4 = .ok (.ldc_w 518, 3) := by decide +kernel
theorem dX11_diagnostic_7 : decode cX11_diagnostic 7 = .ok (.invokevirtual 297, 3) := by decide +kernel
theorem dX11_diagnostic_10 : decode cX11_diagnostic 10 = .ok (.aload_n 0, 1) := by decide +kernel
theorem dX11_diagnostic_11 : decode cX11_diagnostic 11 = .ok (.aload_n 1, 1) := by decide +kernel
theorem dX11_diagnostic_12 : decode cX11_diagnostic 12 = .ok (.aload_n 1, 1) := by decide +kernel
theorem dX11_diagnostic_13 : decode cX11_diagnostic 13 = .ok (.getfield 182, 3) := by decide +kernel
theorem dX11_diagnostic_16 : decode cX11_diagnostic 16 = .ok (.iload_n 2, 1) := by decide +kernel
theorem dX11_diagnostic_17 : decode cX11_diagnostic 17 = .ok (.iaload, 1) := by decide +kernel
theorem dX11_diagnostic_18 : decode cX11_diagnostic 18 = .ok (.invokevirtual 520, 3) := by decide +kernel
theorem dX11_diagnostic_21 : decode cX11_diagnostic 21 = .ok (.aload_n 0, 1) := by decide +kernel
theorem dX11_diagnostic_22 : decode cX11_diagnostic 22 = .ok (.getfield 35, 3) := by decide +kernel
theorem dX11_diagnostic_25 : decode cX11_diagnostic 25 = .ok (.ldc_w 522, 3) := by decide +kernel
theorem dX11_diagnostic_28 : decode cX11_diagnostic 28 = .ok (.invokevirtual 297, 3) := by decide +kernel
theorem dX11_diagnostic_31 : decode cX11_diagnostic 31 = .ok (.aload_n 0, 1) := by decide +kernel
theorem dX11_diagnostic_32 : decode cX11_diagnostic 32 = .ok (.aload_n 1, 1) := by decide +kernel
theorem dX11_diagnostic_33 : decode cX11_diagnostic 33 = .ok (.aload_n 1, 1) := by decide +kernel
theorem dX11_diagnostic_34 : decode cX11_diagnostic 34 = .ok (.getfield 185, 3) := by decide +kernel
theorem dX11_diagnostic_37 : decode cX11_diagnostic 37 = .ok (.iload_n 2, 1) := by decide +kernel
theorem dX11_diagnostic_38 : decode cX11_diagnostic 38 = .ok (.iaload, 1) := by decide +kernel
theorem dX11_diagnostic_39 : decode cX11_diagnostic 39 = .ok (.invokevirtual 520, 3) := by decide +kernel
theorem dX11_diagnostic_42 : decode cX11_diagnostic 42 = .ok (.aload_n 0, 1) := by decide +kernel
theorem dX11_diagnostic_43 : decode cX11_diagnostic 43 = .ok (.getfield 35, 3) := by decide +kernel
theorem dX11_diagnostic_46 : decode cX11_diagnostic 46 = .ok (.ldc_w 524, 3) := by decide +kernel
theorem dX11_diagnostic_49 : decode cX11_diagnostic 49 = .ok (.invokevirtual 297, 3) := by decide +kernel
theorem dX11_diagnostic_52 : decode cX11_diagnostic 52 = .ok (.aload_n 0, 1) := by decide +kernel
theorem dX11_diagnostic_53 : decode cX11_diagnostic 53 = .ok (.getfield 35, 3) := by decide +kernel
theorem dX11_diagnostic_56 : decode cX11_diagnostic 56 = .ok (.aload_n 1, 1) := by decide +kernel
theorem dX11_diagnostic_57 : decode cX11_diagnostic 57 = .ok (.getfield 178, 3) := by decide +kernel
theorem dX11_diagnostic_60 : decode cX11_diagnostic 60 = .ok (.iload_n 2, 1) := by decide +kernel
theorem dX11_diagnostic_61 : decode cX11_diagnostic 61 = .ok (.aaload, 1) := by decide +kernel
theorem dX11_diagnostic_62 : decode cX11_diagnostic 62 = .ok (.getfield 188, 3) := by decide +kernel
theorem dX11_diagnostic_65 : decode cX11_diagnostic 65 = .ok (.invokestatic 526, 3) := by decide +kernel
theorem dX11_diagnostic_68 : decode cX11_diagnostic 68 = .ok (.invokevirtual 297, 3) := by decide +kernel
theorem dX11_diagnostic_71 : decode cX11_diagnostic 71 = .ok (.aload_n 0, 1) := by decide +kernel
theorem dX11_diagnostic_72 : decode cX11_diagnostic 72 = .ok (.getfield 35, 3) := by decide +kernel
theorem dX11_diagnostic_75 : decode cX11_diagnostic 75 = .ok (.ldc_w 529, 3) := by decide +kernel
theorem dX11_diagnostic_78 : decode cX11_diagnostic 78 = .ok (.invokevirtual 297, 3) := by decide +kernel
theorem dX11_diagnostic_81 : decode cX11_diagnostic 81 = .ok (.return_, 1) := by decide +kernel
theorem dX11_position_0 : decode cX11_position 0 = .ok (.aload_n 1, 1) := by decide +kernel
theorem dX11_position_1 : decode cX11_position 1 = .ok (.iload_n 2, 1) := by decide +kernel
theorem dX11_position_2 : decode cX11_position 2 = .ok (.invokevirtual 531, 3) := by decide +kernel
theorem dX11_position_5 : decode cX11_position 5 = .ok (.aload_n 0, 1) := by decide +kernel
theorem dX11_position_6 : decode cX11_position 6 = .ok (.getfield 35, 3) := by decide +kernel
theorem dX11_position_9 : decode cX11_position 9 = .ok (.ldc_w 534, 3) := by decide +kernel
theorem dX11_position_12 : decode cX11_position 12 = .ok (.invokevirtual 297, 3) := by decide +kernel
theorem dX11_position_15 : decode cX11_position 15 = .ok (.aload_n 0, 1) := by decide +kernel
theorem dX11_position_16 : decode cX11_position 16 = .ok (.getfield 35, 3) := by decide +kernel
theorem dX11_position_19 : decode cX11_position 19 = .ok (.aload_n 1, 1) := by decide +kernel
theorem dX11_position_20 : decode cX11_position 20 = .ok (.getfield 536, 3) := by decide +kernel
theorem dX11_position_23 : decode cX11_position 23 = .ok (.invokevirtual 466, 3) := by decide +kernel
theorem dX11_position_26 : decode cX11_position 26 = .ok (.aload_n 0, 1) := by decide +kernel
theorem dX11_position_27 : decode cX11_position 27 = .ok (.getfield 35, 3) := by decide +kernel
theorem dX11_position_30 : decode cX11_position 30 = .ok (.ldc_w 538, 3) := by decide +kernel
theorem dX11_position_33 : decode cX11_position 33 = .ok (.invokevirtual 297, 3) := by decide +kernel
theorem dX11_position_36 : decode cX11_position 36 = .ok (.aload_n 0, 1) := by decide +kernel
theorem dX11_position_37 : decode cX11_position 37 = .ok (.getfield 35, 3) := by decide +kernel
theorem dX11_position_40 : decode cX11_position 40 = .ok (.iload_n 2, 1) := by decide +kernel
theorem dX11_position_41 : decode cX11_position 41 = .ok (.aload_n 1, 1) := by decide +kernel
theorem dX11_position_42 : decode cX11_position 42 = .ok (.getfield 540, 3) := by decide +kernel
theorem dX11_position_45 : decode cX11_position 45 = .ok (.isub, 1) := by decide +kernel
theorem dX11_position_46 : decode cX11_position 46 = .ok (.invokevirtual 466, 3) := by decide +kernel
theorem dX11_position_49 : decode cX11_position 49 = .ok (.aload_n 0, 1) := by decide +kernel
theorem dX11_position_50 : decode cX11_position 50 = .ok (.getfield 35, 3) := by decide +kernel
theorem dX11_position_53 : decode cX11_position 53 = .ok (.bipush 125, 2) := by decide +kernel
theorem dX11_position_55 : decode cX11_position 55 = .ok (.invokevirtual 246, 3) := by decide +kernel
theorem dX11_position_58 : decode cX11_position 58 = .ok (.return_, 1) := by decide +kernel
def EX11_beginAnswer : List (Nat × Nat) := [(2, 0), (2, 1), (196, 0)]
def EX11_position : List (Nat × Nat) := [(2, 0), (2, 1), (3, 14), (3, 15), (3, 16), (196, 0)]
def EX11_diagnostic : List (Nat × Nat) := [(2, 0), (2, 1), (3, 14), (3, 15), (3, 16), (196, 0)]
set_option maxHeartbeats 4000000 in
set_option maxRecDepth 20000 in
theorem uX11_beginAnswer (l : Launch) (dC : Nat → ClassId) (dI : Nat → Nat → Nat) (ca : Nat → ClassId) (base : Nat) (B : jF) (hB : jBok B) (hAp : jAp (dC, dI)) (hB2 : ∀ n G a H, B 2 n G a H ↔ jOb (dC, dI) 2 2 (F2 n G) a H) (hB10 : ∀ n G a H, B 10 n G a H ↔ jOb (dC, dI) 10 5 (F10 n G) a H) (hB13 : ∀ n G a H, B 13 n G a H ↔ jOb (dC, dI) 13 19 (F13 n G) a H) (hB196 : ∀ n G a H, B 196 n G a H ↔ jAr (dC, dI) (ca 0) (fun j z => jBf j z) n a H) (G0 : jT) (H0 : Heap) (r0 : Nat) (r1 : Nat) (r2 : Nat) (n2 : Nat) (bo : Nat) (pc : Int32) (pa : Nat) (n_pa : Nat) (LC LS : Nat) : Met l yX11_beginAnswer (jw yX11_beginAnswer cX11_beginAnswer 3 none) ({ frames := 5, cells := LC - H0.size, slots := LS - jTot H0, locals := 163 }) (va_Pc [.ref r0, .ref r1, .ref r2] (fun U => U.heap = H0 ∧ jX B base G0 [] H0 ∧ jG dC dI ca base U ∧ jStr base r2 n2 U H0 ∧ G0 r1 = some (10, 0) ∧ G0 r0 = some (13, 0) ∧ G0 bo = some (2, 0) ∧ G0 pa = some (196, n_pa) ∧ jP (dC, dI) G0 H0 [(r0, 13, 4, .ref bo), (bo, 2, 1, .int pc), (bo, 2, 0, .ref pa)] ∧ jIs (dC, dI) G0 H0 [(jFy, jYb dC dI G0)] ∧ H0.size + (1048576 - n_pa) / 16 + 1 ≤ LC ∧ jTot H0 + 2 * (1048576 - n_pa) ≤ LS ∧ 0 ≤ pc.toInt ∧ pc.toInt ≤ n_pa ∧ 16 ≤ n_pa ∧ n_pa ≤ 1048576 ∧ jPw n_pa ∧ n2 < 2147483648)) (va_Qv (S := Int32 × Nat × Nat × jT) (fun u => 0 ≤ u.1.toInt ∧ u.1.toInt ≤ u.2.2.1 ∧ n_pa ≤ u.2.2.1 ∧ u.2.2.1 ≤ 1048576 ∧ jPw u.2.2.1) (fun u t => jRa (dC, dI) B base G0 u.2.2.2 EX11_beginAnswer H0 ((u.2.2.1 - n_pa) / 16) (2 * (u.2.2.1 - n_pa)) [(bo, 2, 1, .int u.1), (bo, 2, 0, .ref u.2.1)] t.heap ∧ u.2.2.2 u.2.1 = some (196, u.2.2.1) ∧ (jNk [0, 1, 2, 3, 4, 5, 6, 7, 8, 9, 10, 11, 12, 13, 14, 15, 16]) G0 u.2.2.2 ∧ jIs (dC, dI) u.2.2.2 t.heap [(jFy, jYb dC dI u.2.2.2)]) (jA base)) (LC - H0.size) (LS - jTot H0) (jA base) := by
  refine Met.ofW (cc := cX11_beginAnswer) (maxL := 3) (ret := none) (by decide) rfl ?_
  intro p e s m args below meth c s₁ Bd hml hv
  obtain ⟨rfl, hH0, hX, hG, hstr_r2, hg_r1, hg_r0, hg_bo, hg_pa, hP0, hI0, hLC0, hLS0, hp0, hp1, hp2, hp3, hp4, hp5⟩ := hv
  have hK := hG.1
  have hx := Bd.exec
  have hb := Bd.bytes
  have hr := Bd.returns
  have hts := atoms_spec (ws := (jw yX11_beginAnswer cX11_beginAnswer 3 none)) Bd.pre
  have htw : ∀ w ∈ jWl, w.before _ s = true := fun w h => hts w (List.mem_cons_of_mem _ h)
  have hown : s.vm.findClass RX11 = some m.cls := findClass_of_methodNamed Bd.named
  have hlocks := Bd.notSynchronized
  obtain ⟨Q, hQ⟩ : ∃ Q, Q = MQ below (va_Qv (S := Int32 × Nat × Nat × jT) (fun u => 0 ≤ u.1.toInt ∧ u.1.toInt ≤ u.2.2.1 ∧ n_pa ≤ u.2.2.1 ∧ u.2.2.1 ≤ 1048576 ∧ jPw u.2.2.1) (fun u t => jRa (dC, dI) B base G0 u.2.2.2 EX11_beginAnswer H0 ((u.2.2.1 - n_pa) / 16) (2 * (u.2.2.1 - n_pa)) [(bo, 2, 1, .int u.1), (bo, 2, 0, .ref u.2.1)] t.heap ∧ u.2.2.2 u.2.1 = some (196, u.2.2.1) ∧ (jNk [0, 1, 2, 3, 4, 5, 6, 7, 8, 9, 10, 11, 12, 13, 14, 15, 16]) G0 u.2.2.2 ∧ jIs (dC, dI) u.2.2.2 t.heap [(jFy, jYb dC dI u.2.2.2)]) (jA base)) ([.ref r0, .ref r1, .ref r2] : List Value).toArray s (LC - H0.size) (LS - jTot H0) (jA base) := ⟨_, rfl⟩
  rw [← hQ]
  have hl := lv_entry ([.ref r0, .ref r1, .ref r2]) (n := 3) (Nat.le_of_ble_eq_true rfl)
  rw [lg_entry_eq]
  generalize (lg_sl ([.ref r0, .ref r1, .ref r2]) ++ List.replicate (3 - (lg_sl ([.ref r0, .ref r1, .ref r2])).length) Slot.unset).toArray = ls at hl ⊢
  have hl : lv_has ls 3 [(0, .ref r0), (1, .ref r1), (2, .ref r2)] := hl
  generalize hR : (headSpec (jw yX11_beginAnswer cX11_beginAnswer 3 none) ({ frames := 5, cells := LC - H0.size, slots := LS - jTot H0, locals := 163 })).room = R
  subst hH0
  have hh : jSt (dC, dI) B base G0 G0 EX11_beginAnswer s.heap 0 0 [(r0, 13, 4, .ref bo), (bo, 2, 1, .int pc), (bo, 2, 0, .ref pa)] [] [(jFy, jYb dC dI G0)] s.heap [] := jSt.start hX hP0 jMc.nil hI0
  clear hX hP0
  have hk0 : (0 : Int32).toInt = 0 := by decide
  have hk1 : (1 : Int32).toInt = 1 := by decide
  have hly_2_1 := htw (u_lay RX0 TX0 1) (jWc_wsX00 _ (u_in_lay (by decide)))
  have hly_10_0 := htw (u_lay RX8 TX8 0) (jWc_wsX80 _ (u_in_lay (by decide)))
  have hly_13_4 := htw (u_lay RX11 TX11 4) (jWc_wsX110 _ (u_in_lay (by decide)))
  have hlk_35 := (htw (.fieldLink RX11 35 "ProofServer" "body" "LProofServer$Bytes;") (jWr_2 _ (List.mem_of_getElem? (i := 1) rfl)))
  have hlk_92 := (htw (.fieldLink RX11 92 "ProofServer$Bytes" "count" "I") (jWr_15 _ (List.mem_of_getElem? (i := 18) rfl)))
  obtain ⟨str491, rstr491, hstr4910⟩ := hG.str (o := RX11) (k := 491) (tx := "{\"jsonrpc\":\"2.0\",\"id\":") (List.mem_of_getElem? (i := 826) (by decide +kernel))
  have hstr491 : jStr base str491 22 s s.heap := hstr4910
  have hlk_114 := (htw (.fieldLink RX11 114 "ProofServer$Request" "id" "LProofServer$Bytes;") (jWr_17 _ (List.mem_of_getElem? (i := 9) rfl)))
  obtain ⟨str493, rstr493, hstr4930⟩ := hG.str (o := RX11) (k := 493) (tx := "null") (List.mem_of_getElem? (i := 828) (by decide +kernel))
  have hstr493 : jStr base str493 4 s s.heap := hstr4930
  have hbs : base ≤ s.heap.size := Nat.le_of_lt (Nat.lt_of_le_of_lt (hh.ab hg_r0).1 (hh.ab hg_r0).2)
  have hRc : R.cells = LC - s.heap.size := by rw [← hR]; rfl
  have hRs : R.slots = LS - jTot s.heap := by rw [← hR]; rfl
  refine lv_aload_n hx hb dX11_beginAnswer_0 rfl (lv_at hl 0 rfl) ?_
  refine j7_read hx hb hown hK (C := RX11) (T := TX11) (N := 19) rfl hly_13_4 hlk_35 (hh.at 0 rfl) dX11_beginAnswer_1 ?_
  refine lv_iconst (v := 0) hx hb dX11_beginAnswer_4 (by decide) ?_
  have hd_2 := hh.iv 0 rfl
  have hh_3 := hh.sub (L1 := [(r0, 13, 4, .ref bo), (bo, 2, 1, .int pc), (bo, 2, 0, .ref pa)]) [0, 1, 2] rfl (M1 := []) [] rfl (I1 := []) [] rfl
  clear hh
  refine j7_putX hx hb hown hK hh_3 hB hAp hB2 (C := RX0) (T := TX0) (N := 2) rfl (by decide) hg_bo (i := 1) (by decide) hly_2_1 rfl hlk_92 rfl (ty := .int) (v := .int 0) (by decide +kernel) rfl rfl (⟨_, rfl, by omega, by omega, by omega⟩) rfl (L1 := [(r0, 13, 4, .ref bo), (bo, 2, 0, .ref pa)]) [0, 2] rfl rfl rfl dX11_beginAnswer_5 (fun H_1 locs_1 hr_1 hh_1 => ?_)
  clear hh_3
  have hd_2n := jYb.put hd_2 hr_1 hg_bo (fun h9 => ⟨_, _, _, hh_1.at 0 rfl, hh_1.at 2 rfl, hg_pa, by omega⟩)
  have hh_4 := hh_1.addI (jYb.ie hd_2n)
  clear hh_1
  clear hd_2 hd_2n hr_1
  refine lv_aload_n hx hb dX11_beginAnswer_8 rfl (lv_at hl 0 rfl) ?_
  refine j7_read hx hb hown hK (C := RX11) (T := TX11) (N := 19) rfl hly_13_4 hlk_35 (hh_4.at 1 rfl) dX11_beginAnswer_9 ?_
  refine j_ldcSw hx hb hown rstr491 dX11_beginAnswer_12 ?_
  have hsz_5 := hh_4.2.2.2.2.2.1
  have htt_5 := hh_4.2.2.2.2.2.2.1
  refine W.room (fun hrc_5 hrs_5 => ?_)
  refine va_callv (A0 := jA base) (H0 := s.heap) (va_runV (As := [.ref str491]) (rest := []) ⟨hx, hb, hml, hown, hts⟩ (uX0_text l dC dI ca base B hB hAp hB2 hB196 G0 H_1 bo str491 22 0 pa n_pa LC LS) (cwV 1 hts (jgV (jWr_26 _ (List.mem_of_getElem? (i := 11) rfl)) (jWr_25 _ (List.mem_of_getElem? (i := 22) rfl)) (jWr_25 _ (List.mem_of_getElem? (i := 23) rfl)) (jWr_1 _ (List.mem_of_getElem? (i := 14) rfl)) (jWr_26 _ (List.mem_of_getElem? (i := 0) rfl))) rfl rfl rfl (by decide +kernel) ⟨by rw [← hR]; exact Nat.le_of_ble_eq_true rfl, by rw [← hR]; exact Nat.le_of_ble_eq_true rfl⟩) ⟨fun a U g mk q => by obtain ⟨q0, q1, q2, qK, q10, q11, q12, q13, q14⟩ := q; exact ⟨q0, q1, q2, jG.calling g mk a qK, (q10.moved (Vm.Alike.refl U.vm)), q11, q12, q13, q14⟩, hh_4.recv (C := RX0) (T := TX0) (N := 2) hB2 rfl (by decide) hg_bo hK, fun U hU hW => ⟨rfl, hU, hh_4.2.1, hG.step hW hU hh_4.1, (hstr491.moved hW.alike).kept hh_4.1.2.1, hg_bo, hg_pa, (hh_4.2.2.1.sub (L1 := [(bo, 2, 1, .int 0), (bo, 2, 0, .ref pa)]) [0, 2] rfl), (by omega), (by omega), ⟨(by first | omega | rfl | assumption | fail), (by first | omega | rfl | assumption | fail), (by first | omega | rfl | assumption | fail), (by first | omega | rfl | assumption | fail), (by first | assumption | fail | omega), (by first | omega | rfl | assumption | fail)⟩⟩⟩ rfl rfl hl.1 rfl (lv_room (Nat.le_of_ble_eq_true rfl)) dX11_beginAnswer_15 ⟨by rw [hRc]; omega, by rw [hRs]; omega⟩) hh_4.1 (fun q _ h => h) (fun q h => h) (fun u_5 t_5 H_5 locs_5 ht_5 hvm_5 hr_6 hb_5 hz_5 hk_5 hS_5 => ?_)
  obtain ⟨qc_5, qa_5, m_qa_5, G_5⟩ := u_5
  rw [ht_5] at hb_5
  simp only at hb_5
  obtain ⟨⟨hb_51, hb_52, hb_53, hb_54, hb_55, hb_56⟩, hgq_5_0, hN_5, hbO_5⟩ := hb_5
  have hy_7 := hh_4.iv 0 rfl
  have hh_5 : jSt (dC, dI) B base G0 G_5 EX11_beginAnswer s.heap (0 + ((m_qa_5 - n_pa) / 16)) (0 + (2 * (m_qa_5 - n_pa))) [(bo, 2, 1, .int qc_5), (bo, 2, 0, .ref qa_5), (r0, 13, 4, .ref bo)] [] [] H_5 locs_5 := (hh_4.callG hb_51 hb_52 hb_53 hb_54 hb_55 hS_5 rfl (L1 := [(r0, 13, 4, .ref bo)]) [1] rfl rfl (M1 := []) [] rfl rfl (I1 := []) [] rfl rfl).more hb_56
  have hNn_5 : (jNk [0, 1, 2, 3, 4, 5, 6, 7, 8, 9, 10, 11, 12, 13, 14, 15, 16]) G0 G_5 := (jNk.rf).tr hN_5
  have hg_8 := hb_52 _ _ hg_r0
  have hg_9 := hb_52 _ _ hg_r1
  have hg_10 := hb_52 _ _ hg_bo
  have hyp_5 : qc_5.toInt ≤ (m_qa_5 : Nat) ∧ m_qa_5 ≤ 1048576 := by (try simp only at hr_6); omega
  have hy_11 := jYb.own hy_7 hbO_5 hb_52 hN_5 (by decide) (fun _ => ⟨_, _, _, hh_5.at 0 rfl, hh_5.at 1 rfl, hgq_5_0, hyp_5⟩)
  have hh_12 := hh_5.addI (jYb.ie hy_11)
  clear hh_5
  try simp only at hr_6
  obtain ⟨hr_6_0, hr_6_1, hr_6_2, hr_6_3, hr_6_4⟩ := hr_6
  have hh_13 := hh_12.wk (zc1 := (m_qa_5 - n_pa) / 16) (zs1 := 2 * (m_qa_5 - n_pa)) (by omega) (by omega)
  clear hh_12
  try clear hsz_5 htt_5 hrc_5 hrs_5
  try clear hb_54 hb_55
  refine lv_aload_n hx hb dX11_beginAnswer_18 rfl (lv_at hl 1 rfl) ?_
  obtain ⟨v_14, hv_14, hh_15⟩ := hh_13.pin (C := RX8) (T := TX8) (N := 5) hB10 rfl (by decide) hg_9 (i := 0) (by decide) rfl
  clear hh_13
  rcases hv_14 with rfl | ⟨id_16, rfl, hg_id_16⟩
  · refine j7_read hx hb hown hK (C := RX8) (T := TX8) (N := 5) rfl hly_10_0 hlk_114 (hh_15.at 0 rfl) dX11_beginAnswer_19 ?_
    refine lv_ifnonnullN hx hb dX11_beginAnswer_22 ?_
    refine lv_aload_n hx hb dX11_beginAnswer_25 rfl (lv_at hl 0 rfl) ?_
    refine j7_read hx hb hown hK (C := RX11) (T := TX11) (N := 19) rfl hly_13_4 hlk_35 (hh_15.at 3 rfl) dX11_beginAnswer_26 ?_
    refine j_ldcSw hx hb hown rstr493 dX11_beginAnswer_29 ?_
    have hsz_17 := hh_15.2.2.2.2.2.1
    have htt_17 := hh_15.2.2.2.2.2.2.1
    refine W.room (fun hrc_17 hrs_17 => ?_)
    refine va_callv (A0 := jA base) (H0 := s.heap) (va_runV (As := [.ref str493]) (rest := []) ⟨hx, hb, hml, hown, hts⟩ (uX0_text l dC dI ca base B hB hAp hB2 hB196 G_5 H_5 bo str493 4 qc_5 qa_5 m_qa_5 LC LS) (cwV 1 hts (jgV (jWr_26 _ (List.mem_of_getElem? (i := 11) rfl)) (jWr_25 _ (List.mem_of_getElem? (i := 22) rfl)) (jWr_25 _ (List.mem_of_getElem? (i := 23) rfl)) (jWr_1 _ (List.mem_of_getElem? (i := 14) rfl)) (jWr_26 _ (List.mem_of_getElem? (i := 0) rfl))) rfl rfl rfl (by decide +kernel) ⟨by rw [← hR]; exact Nat.le_of_ble_eq_true rfl, by rw [← hR]; exact Nat.le_of_ble_eq_true rfl⟩) ⟨fun a U g mk q => by obtain ⟨q0, q1, q2, qK, q10, q11, q12, q13, q14⟩ := q; exact ⟨q0, q1, q2, jG.calling g mk a qK, (q10.moved (Vm.Alike.refl U.vm)), q11, q12, q13, q14⟩, hh_15.recv (C := RX0) (T := TX0) (N := 2) hB2 rfl (by decide) hg_10 hK, fun U hU hW => ⟨rfl, hU, hh_15.2.1, hG.step hW hU hh_15.1, (hstr493.moved hW.alike).kept hh_15.1.2.1, hg_10, hgq_5_0, (hh_15.2.2.1.sub (L1 := [(bo, 2, 1, .int qc_5), (bo, 2, 0, .ref qa_5)]) [1, 2] rfl), (by omega), (by omega), ⟨(by first | omega | rfl | assumption | fail), (by first | omega | rfl | assumption | fail), (by first | omega | rfl | assumption | fail), (by first | omega | rfl | assumption | fail), (by first | assumption | fail | omega), (by first | omega | rfl | assumption | fail)⟩⟩⟩ rfl rfl hl.1 rfl (lv_room (Nat.le_of_ble_eq_true rfl)) dX11_beginAnswer_32 ⟨by rw [hRc]; omega, by rw [hRs]; omega⟩) hh_15.1 (fun q _ h => h) (fun q h => h) (fun u_17 t_17 H_17 locs_17 ht_17 hvm_17 hr_18 hb_17 hz_17 hk_17 hS_17 => ?_)
    obtain ⟨qc_17, qa_17, m_qa_17, G_17⟩ := u_17
    rw [ht_17] at hb_17
    simp only at hb_17
    obtain ⟨⟨hb_171, hb_172, hb_173, hb_174, hb_175, hb_176⟩, hgq_17_0, hN_17, hbO_17⟩ := hb_17
    have hy_19 := hh_15.iv 0 rfl
    have hh_17 : jSt (dC, dI) B base G0 G_17 EX11_beginAnswer s.heap (((m_qa_5 - n_pa) / 16) + ((m_qa_17 - m_qa_5) / 16)) ((2 * (m_qa_5 - n_pa)) + (2 * (m_qa_17 - m_qa_5))) [(bo, 2, 1, .int qc_17), (bo, 2, 0, .ref qa_17), (r1, 10, 0, .null), (r0, 13, 4, .ref bo)] [] [] H_17 locs_17 := (hh_15.callG hb_171 hb_172 hb_173 hb_174 hb_175 hS_17 rfl (L1 := [(r1, 10, 0, .null), (r0, 13, 4, .ref bo)]) [0, 3] rfl rfl (M1 := []) [] rfl rfl (I1 := []) [] rfl rfl).more hb_176
    have hNn_17 : (jNk [0, 1, 2, 3, 4, 5, 6, 7, 8, 9, 10, 11, 12, 13, 14, 15, 16]) G0 G_17 := (hNn_5).tr hN_17
    have hg_20 := hb_172 _ _ hg_8
    have hg_21 := hb_172 _ _ hg_9
    have hg_22 := hb_172 _ _ hg_10
    have hyp_17 : qc_17.toInt ≤ (m_qa_17 : Nat) ∧ m_qa_17 ≤ 1048576 := by (try simp only at hr_18); omega
    have hy_23 := jYb.own hy_19 hbO_17 hb_172 hN_17 (by decide) (fun _ => ⟨_, _, _, hh_17.at 0 rfl, hh_17.at 1 rfl, hgq_17_0, hyp_17⟩)
    have hh_24 := hh_17.addI (jYb.ie hy_23)
    clear hh_17
    try simp only at hr_18
    obtain ⟨hr_18_0, hr_18_1, hr_18_2, hr_18_3, hr_18_4⟩ := hr_18
    have hh_25 := hh_24.wk (zc1 := (m_qa_17 - n_pa) / 16) (zs1 := 2 * (m_qa_17 - n_pa)) (by omega) (by omega)
    clear hh_24
    try clear hsz_17 htt_17 hrc_17 hrs_17
    try clear hb_174 hb_175
    refine lv_goto (tgt := 49) hx hb dX11_beginAnswer_35 (by decide) ?_
    refine lv_aload_n hx hb dX11_beginAnswer_49 rfl (lv_at hl 0 rfl) ?_
    refine j7_read hx hb hown hK (C := RX11) (T := TX11) (N := 19) rfl hly_13_4 hlk_35 (hh_25.at 3 rfl) dX11_beginAnswer_50 ?_
    refine lv_aload_n hx hb dX11_beginAnswer_53 rfl (lv_at hl 2 rfl) ?_
    have hsz_26 := hh_25.2.2.2.2.2.1
    have htt_26 := hh_25.2.2.2.2.2.2.1
    refine W.room (fun hrc_26 hrs_26 => ?_)
    refine va_callv (A0 := jA base) (H0 := s.heap) (va_runV (As := [.ref r2]) (rest := []) ⟨hx, hb, hml, hown, hts⟩ (uX0_text l dC dI ca base B hB hAp hB2 hB196 G_17 H_17 bo r2 n2 qc_17 qa_17 m_qa_17 LC LS) (cwV 1 hts (jgV (jWr_26 _ (List.mem_of_getElem? (i := 11) rfl)) (jWr_25 _ (List.mem_of_getElem? (i := 22) rfl)) (jWr_25 _ (List.mem_of_getElem? (i := 23) rfl)) (jWr_1 _ (List.mem_of_getElem? (i := 14) rfl)) (jWr_26 _ (List.mem_of_getElem? (i := 0) rfl))) rfl rfl rfl (by decide +kernel) ⟨by rw [← hR]; exact Nat.le_of_ble_eq_true rfl, by rw [← hR]; exact Nat.le_of_ble_eq_true rfl⟩) ⟨fun a U g mk q => by obtain ⟨q0, q1, q2, qK, q10, q11, q12, q13, q14⟩ := q; exact ⟨q0, q1, q2, jG.calling g mk a qK, (q10.moved (Vm.Alike.refl U.vm)), q11, q12, q13, q14⟩, hh_25.recv (C := RX0) (T := TX0) (N := 2) hB2 rfl (by decide) hg_22 hK, fun U hU hW => ⟨rfl, hU, hh_25.2.1, hG.step hW hU hh_25.1, (hstr_r2.moved hW.alike).kept hh_25.1.2.1, hg_22, hgq_17_0, (hh_25.2.2.1.sub (L1 := [(bo, 2, 1, .int qc_17), (bo, 2, 0, .ref qa_17)]) [0, 1] rfl), (by omega), (by omega), ⟨(by first | omega | rfl | assumption | fail), (by first | omega | rfl | assumption | fail), (by first | omega | rfl | assumption | fail), (by first | omega | rfl | assumption | fail), (by first | assumption | fail | omega), (by first | omega | rfl | assumption | fail)⟩⟩⟩ rfl rfl hl.1 rfl (lv_room (Nat.le_of_ble_eq_true rfl)) dX11_beginAnswer_54 ⟨by rw [hRc]; omega, by rw [hRs]; omega⟩) hh_25.1 (fun q _ h => h) (fun q h => h) (fun u_26 t_26 H_26 locs_26 ht_26 hvm_26 hr_27 hb_26 hz_26 hk_26 hS_26 => ?_)
    obtain ⟨qc_26, qa_26, m_qa_26, G_26⟩ := u_26
    rw [ht_26] at hb_26
    simp only at hb_26
    obtain ⟨⟨hb_261, hb_262, hb_263, hb_264, hb_265, hb_266⟩, hgq_26_0, hN_26, hbO_26⟩ := hb_26
    have hy_28 := hh_25.iv 0 rfl
    have hh_26 : jSt (dC, dI) B base G0 G_26 EX11_beginAnswer s.heap (((m_qa_17 - n_pa) / 16) + ((m_qa_26 - m_qa_17) / 16)) ((2 * (m_qa_17 - n_pa)) + (2 * (m_qa_26 - m_qa_17))) [(bo, 2, 1, .int qc_26), (bo, 2, 0, .ref qa_26), (r1, 10, 0, .null), (r0, 13, 4, .ref bo)] [] [] H_26 locs_26 := (hh_25.callG hb_261 hb_262 hb_263 hb_264 hb_265 hS_26 rfl (L1 := [(r1, 10, 0, .null), (r0, 13, 4, .ref bo)]) [2, 3] rfl rfl (M1 := []) [] rfl rfl (I1 := []) [] rfl rfl).more hb_266
    have hNn_26 : (jNk [0, 1, 2, 3, 4, 5, 6, 7, 8, 9, 10, 11, 12, 13, 14, 15, 16]) G0 G_26 := (hNn_17).tr hN_26
    have hg_29 := hb_262 _ _ hg_20
    have hg_30 := hb_262 _ _ hg_21
    have hg_31 := hb_262 _ _ hg_22
    have hyp_26 : qc_26.toInt ≤ (m_qa_26 : Nat) ∧ m_qa_26 ≤ 1048576 := by (try simp only at hr_27); omega
    have hy_32 := jYb.own hy_28 hbO_26 hb_262 hN_26 (by decide) (fun _ => ⟨_, _, _, hh_26.at 0 rfl, hh_26.at 1 rfl, hgq_26_0, hyp_26⟩)
    have hh_33 := hh_26.addI (jYb.ie hy_32)
    clear hh_26
    try simp only at hr_27
    obtain ⟨hr_27_0, hr_27_1, hr_27_2, hr_27_3, hr_27_4⟩ := hr_27
    have hh_34 := hh_33.wk (zc1 := (m_qa_26 - n_pa) / 16) (zs1 := 2 * (m_qa_26 - n_pa)) (by omega) (by omega)
    clear hh_33
    try clear hsz_26 htt_26 hrc_26 hrs_26
    try clear hb_264 hb_265
    have hsz_35 := hh_34.2.2.2.2.2.1
    have htt_35 := hh_34.2.2.2.2.2.2.1
    refine W.room (fun hrc_35 hrs_35 => ?_)
    refine W.widen (k := LC - s.heap.size) (n := LS - jTot s.heap) (by omega) (by omega) ?_
    rw [hQ]
    exact W.vret hx hb hr (fun t ht hW => ⟨⟨(qc_26, qa_26, m_qa_26, G_26), rfl, by (try dsimp only); exact ⟨(by first | omega | rfl | assumption | fail), (by first | omega | rfl | assumption | fail), (by first | omega | rfl | assumption | fail), (by first | omega | rfl | assumption | fail), (by first | assumption | fail | omega)⟩, ⟨hh_34.ra (by first | omega | (simp only; omega)) (by first | omega | (simp only; omega)) (M1 := [(bo, 2, 1, .int qc_26), (bo, 2, 0, .ref qa_26)]) [0, 1] rfl ht, hgq_26_0, hNn_26, by rw [ht]; exact hh_34.2.2.2.2.2.2.2.2.sub (L1 := [(jFy, jYb dC dI G_26)]) [0] rfl⟩⟩, by rw [ht]; try exact hh_34.1.1, fun q h9 hq => by rw [ht]; try exact hh_34.1.2.1 q h9 hq⟩) hh_34.1.2.2 dX11_beginAnswer_57
  · refine j7_read hx hb hown hK (C := RX8) (T := TX8) (N := 5) rfl hly_10_0 hlk_114 (hh_15.at 0 rfl) dX11_beginAnswer_19 ?_
    refine lv_ifnonnull (tgt := 38) hx hb dX11_beginAnswer_22 (by decide) ?_
    refine lv_aload_n hx hb dX11_beginAnswer_38 rfl (lv_at hl 0 rfl) ?_
    refine j7_read hx hb hown hK (C := RX11) (T := TX11) (N := 19) rfl hly_13_4 hlk_35 (hh_15.at 3 rfl) dX11_beginAnswer_39 ?_
    refine lv_aload_n hx hb dX11_beginAnswer_42 rfl (lv_at hl 1 rfl) ?_
    refine j7_read hx hb hown hK (C := RX8) (T := TX8) (N := 5) rfl hly_10_0 hlk_114 (hh_15.at 0 rfl) dX11_beginAnswer_43 ?_
    have hsz_36 := hh_15.2.2.2.2.2.1
    have htt_36 := hh_15.2.2.2.2.2.2.1
    refine W.room (fun hrc_36 hrs_36 => ?_)
    refine va_callv (A0 := jA base) (H0 := s.heap) (va_runV (As := [.ref id_16]) (rest := []) ⟨hx, hb, hml, hown, hts⟩ (uX0_append l dC dI ca base B hB hAp hB2 hB196 G_5 H_5 bo id_16 qc_5 qa_5 m_qa_5 LC LS) (cwV 1 hts (jgV (jWr_26 _ (List.mem_of_getElem? (i := 12) rfl)) (jWr_26 _ (List.mem_of_getElem? (i := 13) rfl)) (jWr_26 _ (List.mem_of_getElem? (i := 14) rfl)) (jWr_1 _ (List.mem_of_getElem? (i := 14) rfl)) (jWr_26 _ (List.mem_of_getElem? (i := 15) rfl))) rfl rfl rfl (by decide +kernel) ⟨by rw [← hR]; exact Nat.le_of_ble_eq_true rfl, by rw [← hR]; exact Nat.le_of_ble_eq_true rfl⟩) ⟨fun a U g mk q => by obtain ⟨q0, q1, q2, qK, q10, q11, q12, q13, q14⟩ := q; exact ⟨q0, q1, q2, jG.calling g mk a qK, q10, q11, q12, q13, q14⟩, hh_15.recv (C := RX0) (T := TX0) (N := 2) hB2 rfl (by decide) hg_10 hK, fun U hU hW => ⟨rfl, hU, hh_15.2.1, hG.step hW hU hh_15.1, hg_10, hg_id_16, hgq_5_0, (hh_15.2.2.1.sub (L1 := [(bo, 2, 1, .int qc_5), (bo, 2, 0, .ref qa_5)]) [1, 2] rfl), (by omega), (by omega), ⟨(by first | omega | rfl | assumption | fail), (by first | omega | rfl | assumption | fail), (by first | omega | rfl | assumption | fail), (by first | omega | rfl | assumption | fail), (by first | assumption | fail | omega)⟩⟩⟩ rfl rfl hl.1 rfl (lv_room (Nat.le_of_ble_eq_true rfl)) dX11_beginAnswer_46 ⟨by rw [hRc]; omega, by rw [hRs]; omega⟩) hh_15.1 (fun q _ h => h) (fun q h => h) (fun u_36 t_36 H_36 locs_36 ht_36 hvm_36 hr_37 hb_36 hz_36 hk_36 hS_36 => ?_)
    obtain ⟨qc_36, qa_36, m_qa_36, G_36⟩ := u_36
    rw [ht_36] at hb_36
    simp only at hb_36
    obtain ⟨⟨hb_361, hb_362, hb_363, hb_364, hb_365, hb_366⟩, hgq_36_0, hN_36, hbO_36⟩ := hb_36
    have hy_38 := hh_15.iv 0 rfl
    have hh_36 : jSt (dC, dI) B base G0 G_36 EX11_beginAnswer s.heap (((m_qa_5 - n_pa) / 16) + ((m_qa_36 - m_qa_5) / 16)) ((2 * (m_qa_5 - n_pa)) + (2 * (m_qa_36 - m_qa_5))) [(bo, 2, 1, .int qc_36), (bo, 2, 0, .ref qa_36), (r1, 10, 0, .ref id_16), (r0, 13, 4, .ref bo)] [] [] H_36 locs_36 := (hh_15.callG hb_361 hb_362 hb_363 hb_364 hb_365 hS_36 rfl (L1 := [(r1, 10, 0, .ref id_16), (r0, 13, 4, .ref bo)]) [0, 3] rfl rfl (M1 := []) [] rfl rfl (I1 := []) [] rfl rfl).more hb_366
    have hNn_36 : (jNk [0, 1, 2, 3, 4, 5, 6, 7, 8, 9, 10, 11, 12, 13, 14, 15, 16]) G0 G_36 := (hNn_5).tr hN_36
    have hg_39 := hb_362 _ _ hg_8
    have hg_40 := hb_362 _ _ hg_9
    have hg_41 := hb_362 _ _ hg_id_16
    have hg_42 := hb_362 _ _ hg_10
    have hyp_36 : qc_36.toInt ≤ (m_qa_36 : Nat) ∧ m_qa_36 ≤ 1048576 := by (try simp only at hr_37); omega
    have hy_43 := jYb.own hy_38 hbO_36 hb_362 hN_36 (by decide) (fun _ => ⟨_, _, _, hh_36.at 0 rfl, hh_36.at 1 rfl, hgq_36_0, hyp_36⟩)
    have hh_44 := hh_36.addI (jYb.ie hy_43)
    clear hh_36
    try simp only at hr_37
    obtain ⟨hr_37_0, hr_37_1, hr_37_2, hr_37_3, hr_37_4⟩ := hr_37
    have hh_45 := hh_44.wk (zc1 := (m_qa_36 - n_pa) / 16) (zs1 := 2 * (m_qa_36 - n_pa)) (by omega) (by omega)
    clear hh_44
    try clear hsz_36 htt_36 hrc_36 hrs_36
    try clear hb_364 hb_365
    refine lv_aload_n hx hb dX11_beginAnswer_49 rfl (lv_at hl 0 rfl) ?_
    refine j7_read hx hb hown hK (C := RX11) (T := TX11) (N := 19) rfl hly_13_4 hlk_35 (hh_45.at 3 rfl) dX11_beginAnswer_50 ?_
    refine lv_aload_n hx hb dX11_beginAnswer_53 rfl (lv_at hl 2 rfl) ?_
    have hsz_46 := hh_45.2.2.2.2.2.1
    have htt_46 := hh_45.2.2.2.2.2.2.1
    refine W.room (fun hrc_46 hrs_46 => ?_)
    refine va_callv (A0 := jA base) (H0 := s.heap) (va_runV (As := [.ref r2]) (rest := []) ⟨hx, hb, hml, hown, hts⟩ (uX0_text l dC dI ca base B hB hAp hB2 hB196 G_36 H_36 bo r2 n2 qc_36 qa_36 m_qa_36 LC LS) (cwV 1 hts (jgV (jWr_26 _ (List.mem_of_getElem? (i := 11) rfl)) (jWr_25 _ (List.mem_of_getElem? (i := 22) rfl)) (jWr_25 _ (List.mem_of_getElem? (i := 23) rfl)) (jWr_1 _ (List.mem_of_getElem? (i := 14) rfl)) (jWr_26 _ (List.mem_of_getElem? (i := 0) rfl))) rfl rfl rfl (by decide +kernel) ⟨by rw [← hR]; exact Nat.le_of_ble_eq_true rfl, by rw [← hR]; exact Nat.le_of_ble_eq_true rfl⟩) ⟨fun a U g mk q => by obtain ⟨q0, q1, q2, qK, q10, q11, q12, q13, q14⟩ := q; exact ⟨q0, q1, q2, jG.calling g mk a qK, (q10.moved (Vm.Alike.refl U.vm)), q11, q12, q13, q14⟩, hh_45.recv (C := RX0) (T := TX0) (N := 2) hB2 rfl (by decide) hg_42 hK, fun U hU hW => ⟨rfl, hU, hh_45.2.1, hG.step hW hU hh_45.1, (hstr_r2.moved hW.alike).kept hh_45.1.2.1, hg_42, hgq_36_0, (hh_45.2.2.1.sub (L1 := [(bo, 2, 1, .int qc_36), (bo, 2, 0, .ref qa_36)]) [0, 1] rfl), (by omega), (by omega), ⟨(by first | omega | rfl | assumption | fail), (by first | omega | rfl | assumption | fail), (by first | omega | rfl | assumption | fail), (by first | omega | rfl | assumption | fail), (by first | assumption | fail | omega), (by first | omega | rfl | assumption | fail)⟩⟩⟩ rfl rfl hl.1 rfl (lv_room (Nat.le_of_ble_eq_true rfl)) dX11_beginAnswer_54 ⟨by rw [hRc]; omega, by rw [hRs]; omega⟩) hh_45.1 (fun q _ h => h) (fun q h => h) (fun u_46 t_46 H_46 locs_46 ht_46 hvm_46 hr_47 hb_46 hz_46 hk_46 hS_46 => ?_)
    obtain ⟨qc_46, qa_46, m_qa_46, G_46⟩ := u_46
    rw [ht_46] at hb_46
    simp only at hb_46
    obtain ⟨⟨hb_461, hb_462, hb_463, hb_464, hb_465, hb_466⟩, hgq_46_0, hN_46, hbO_46⟩ := hb_46
    have hy_48 := hh_45.iv 0 rfl
    have hh_46 : jSt (dC, dI) B base G0 G_46 EX11_beginAnswer s.heap (((m_qa_36 - n_pa) / 16) + ((m_qa_46 - m_qa_36) / 16)) ((2 * (m_qa_36 - n_pa)) + (2 * (m_qa_46 - m_qa_36))) [(bo, 2, 1, .int qc_46), (bo, 2, 0, .ref qa_46), (r1, 10, 0, .ref id_16), (r0, 13, 4, .ref bo)] [] [] H_46 locs_46 := (hh_45.callG hb_461 hb_462 hb_463 hb_464 hb_465 hS_46 rfl (L1 := [(r1, 10, 0, .ref id_16), (r0, 13, 4, .ref bo)]) [2, 3] rfl rfl (M1 := []) [] rfl rfl (I1 := []) [] rfl rfl).more hb_466
    have hNn_46 : (jNk [0, 1, 2, 3, 4, 5, 6, 7, 8, 9, 10, 11, 12, 13, 14, 15, 16]) G0 G_46 := (hNn_36).tr hN_46
    have hg_49 := hb_462 _ _ hg_39
    have hg_50 := hb_462 _ _ hg_40
    have hg_51 := hb_462 _ _ hg_41
    have hg_52 := hb_462 _ _ hg_42
    have hyp_46 : qc_46.toInt ≤ (m_qa_46 : Nat) ∧ m_qa_46 ≤ 1048576 := by (try simp only at hr_47); omega
    have hy_53 := jYb.own hy_48 hbO_46 hb_462 hN_46 (by decide) (fun _ => ⟨_, _, _, hh_46.at 0 rfl, hh_46.at 1 rfl, hgq_46_0, hyp_46⟩)
    have hh_54 := hh_46.addI (jYb.ie hy_53)
    clear hh_46
    try simp only at hr_47
    obtain ⟨hr_47_0, hr_47_1, hr_47_2, hr_47_3, hr_47_4⟩ := hr_47
    have hh_55 := hh_54.wk (zc1 := (m_qa_46 - n_pa) / 16) (zs1 := 2 * (m_qa_46 - n_pa)) (by omega) (by omega)
    clear hh_54
    try clear hsz_46 htt_46 hrc_46 hrs_46
    try clear hb_464 hb_465
    have hsz_56 := hh_55.2.2.2.2.2.1
    have htt_56 := hh_55.2.2.2.2.2.2.1
    refine W.room (fun hrc_56 hrs_56 => ?_)
    refine W.widen (k := LC - s.heap.size) (n := LS - jTot s.heap) (by omega) (by omega) ?_
    rw [hQ]
    exact W.vret hx hb hr (fun t ht hW => ⟨⟨(qc_46, qa_46, m_qa_46, G_46), rfl, by (try dsimp only); exact ⟨(by first | omega | rfl | assumption | fail), (by first | omega | rfl | assumption | fail), (by first | omega | rfl | assumption | fail), (by first | omega | rfl | assumption | fail), (by first | assumption | fail | omega)⟩, ⟨hh_55.ra (by first | omega | (simp only; omega)) (by first | omega | (simp only; omega)) (M1 := [(bo, 2, 1, .int qc_46), (bo, 2, 0, .ref qa_46)]) [0, 1] rfl ht, hgq_46_0, hNn_46, by rw [ht]; exact hh_55.2.2.2.2.2.2.2.2.sub (L1 := [(jFy, jYb dC dI G_46)]) [0] rfl⟩⟩, by rw [ht]; try exact hh_55.1.1, fun q h9 hq => by rw [ht]; try exact hh_55.1.2.1 q h9 hq⟩) hh_55.1.2.2 dX11_beginAnswer_57
set_option maxHeartbeats 4000000 in
set_option maxRecDepth 20000 in
theorem uX11_position (l : Launch) (dC : Nat → ClassId) (dI : Nat → Nat → Nat) (ca : Nat → ClassId) (base : Nat) (B : jF) (hB : jBok B) (hAp : jAp (dC, dI)) (hB2 : ∀ n G a H, B 2 n G a H ↔ jOb (dC, dI) 2 2 (F2 n G) a H) (hB3 : ∀ n G a H, B 3 n G a H ↔ jOb (dC, dI) 3 17 (F3 n G) a H) (hB13 : ∀ n G a H, B 13 n G a H ↔ jOb (dC, dI) 13 19 (F13 n G) a H) (hB101 : ∀ n G a H, B 101 n G a H ↔ jAr (dC, dI) (ca 1) (fun j z => True) n a H) (hB196 : ∀ n G a H, B 196 n G a H ↔ jAr (dC, dI) (ca 0) (fun j z => jBf j z) n a H) (G0 : jT) (H0 : Heap) (r0 : Nat) (r1 : Nat) (a2 : Int32) (bo : Nat) (pc : Int32) (pa : Nat) (n_pa : Nat) (LC LS : Nat) : Met l yX11_position (jw yX11_position cX11_position 3 none) ({ frames := 5, cells := LC - H0.size, slots := LS - jTot H0, locals := 163 }) (va_Pc [.ref r0, .ref r1, .int a2] (fun U => U.heap = H0 ∧ jX B base G0 [] H0 ∧ jG dC dI ca base U ∧ G0 r1 = some (3, 0) ∧ G0 r0 = some (13, 0) ∧ G0 bo = some (2, 0) ∧ G0 pa = some (196, n_pa) ∧ jP (dC, dI) G0 H0 [(r0, 13, 4, .ref bo), (bo, 2, 1, .int pc), (bo, 2, 0, .ref pa)] ∧ jIs (dC, dI) G0 H0 [(jFy, jYb dC dI G0)] ∧ H0.size + (1048576 - n_pa) / 16 + 1 ≤ LC ∧ jTot H0 + 2 * (1048576 - n_pa) ≤ LS ∧ 0 ≤ pc.toInt ∧ pc.toInt ≤ n_pa ∧ 16 ≤ n_pa ∧ n_pa ≤ 1048576 ∧ jPw n_pa)) (va_Qv (S := Int32 × Nat × Nat × jT) (fun u => 0 ≤ u.1.toInt ∧ u.1.toInt ≤ u.2.2.1 ∧ n_pa ≤ u.2.2.1 ∧ u.2.2.1 ≤ 1048576 ∧ jPw u.2.2.1) (fun u t => jRa (dC, dI) B base G0 u.2.2.2 EX11_position H0 ((u.2.2.1 - n_pa) / 16) (2 * (u.2.2.1 - n_pa)) [(bo, 2, 1, .int u.1), (bo, 2, 0, .ref u.2.1)] t.heap ∧ u.2.2.2 u.2.1 = some (196, u.2.2.1) ∧ (jNk [0, 1, 2, 3, 4, 5, 6, 7, 8, 9, 10, 11, 12, 13, 14, 15, 16]) G0 u.2.2.2 ∧ jIs (dC, dI) u.2.2.2 t.heap [(jFy, jYb dC dI u.2.2.2)]) (jA base)) (LC - H0.size) (LS - jTot H0) (jA base) := by
  refine Met.ofW (cc := cX11_position) (maxL := 3) (ret := none) (by decide) rfl ?_
  intro p e s m args below meth c s₁ Bd hml hv
  obtain ⟨rfl, hH0, hX, hG, hg_r1, hg_r0, hg_bo, hg_pa, hP0, hI0, hLC0, hLS0, hp0, hp1, hp2, hp3, hp4⟩ := hv
  have hK := hG.1
  have hx := Bd.exec
  have hb := Bd.bytes
  have hr := Bd.returns
  have hts := atoms_spec (ws := (jw yX11_position cX11_position 3 none)) Bd.pre
  have htw : ∀ w ∈ jWl, w.before _ s = true := fun w h => hts w (List.mem_cons_of_mem _ h)
  have hown : s.vm.findClass RX11 = some m.cls := findClass_of_methodNamed Bd.named
  have hlocks := Bd.notSynchronized
  obtain ⟨Q, hQ⟩ : ∃ Q, Q = MQ below (va_Qv (S := Int32 × Nat × Nat × jT) (fun u => 0 ≤ u.1.toInt ∧ u.1.toInt ≤ u.2.2.1 ∧ n_pa ≤ u.2.2.1 ∧ u.2.2.1 ≤ 1048576 ∧ jPw u.2.2.1) (fun u t => jRa (dC, dI) B base G0 u.2.2.2 EX11_position H0 ((u.2.2.1 - n_pa) / 16) (2 * (u.2.2.1 - n_pa)) [(bo, 2, 1, .int u.1), (bo, 2, 0, .ref u.2.1)] t.heap ∧ u.2.2.2 u.2.1 = some (196, u.2.2.1) ∧ (jNk [0, 1, 2, 3, 4, 5, 6, 7, 8, 9, 10, 11, 12, 13, 14, 15, 16]) G0 u.2.2.2 ∧ jIs (dC, dI) u.2.2.2 t.heap [(jFy, jYb dC dI u.2.2.2)]) (jA base)) ([.ref r0, .ref r1, .int a2] : List Value).toArray s (LC - H0.size) (LS - jTot H0) (jA base) := ⟨_, rfl⟩
  rw [← hQ]
  have hl := lv_entry ([.ref r0, .ref r1, .int a2]) (n := 3) (Nat.le_of_ble_eq_true rfl)
  rw [lg_entry_eq]
  generalize (lg_sl ([.ref r0, .ref r1, .int a2]) ++ List.replicate (3 - (lg_sl ([.ref r0, .ref r1, .int a2])).length) Slot.unset).toArray = ls at hl ⊢
  have hl : lv_has ls 3 [(0, .ref r0), (1, .ref r1), (2, .int a2)] := hl
  generalize hR : (headSpec (jw yX11_position cX11_position 3 none) ({ frames := 5, cells := LC - H0.size, slots := LS - jTot H0, locals := 163 })).room = R
  subst hH0
  have hh : jSt (dC, dI) B base G0 G0 EX11_position s.heap 0 0 [(r0, 13, 4, .ref bo), (bo, 2, 1, .int pc), (bo, 2, 0, .ref pa)] [] [(jFy, jYb dC dI G0)] s.heap [] := jSt.start hX hP0 jMc.nil hI0
  clear hX hP0
  have hk0 : (0 : Int32).toInt = 0 := by decide
  have hk1 : (1 : Int32).toInt = 1 := by decide
  have hk125 : (125 : Int32).toInt = 125 := by decide
  have hly_3_14 := htw (u_lay RX1 TX1 14) (jWc_wsX10 _ (u_in_lay (by decide)))
  have hly_3_15 := htw (u_lay RX1 TX1 15) (jWc_wsX10 _ (u_in_lay (by decide)))
  have hly_13_4 := htw (u_lay RX11 TX11 4) (jWc_wsX110 _ (u_in_lay (by decide)))
  have hlk_35 := (htw (.fieldLink RX11 35 "ProofServer" "body" "LProofServer$Bytes;") (jWr_2 _ (List.mem_of_getElem? (i := 1) rfl)))
  obtain ⟨str534, rstr534, hstr5340⟩ := hG.str (o := RX11) (k := 534) (tx := "{\"line\":") (List.mem_of_getElem? (i := 1233) (by decide +kernel))
  have hstr534 : jStr base str534 8 s s.heap := hstr5340
  have hlk_536 := (htw (.fieldLink RX11 536 "ProofServer$Document" "line" "I") (jWr_40 _ (List.mem_of_getElem? (i := 19) rfl)))
  obtain ⟨str538, rstr538, hstr5380⟩ := hG.str (o := RX11) (k := 538) (tx := ",\"character\":") (List.mem_of_getElem? (i := 1234) (by decide +kernel))
  have hstr538 : jStr base str538 13 s s.heap := hstr5380
  have hlk_540 := (htw (.fieldLink RX11 540 "ProofServer$Document" "lineStart" "I") (jWr_40 _ (List.mem_of_getElem? (i := 20) rfl)))
  have hrg_a2 := jb_rng a2
  have hbs : base ≤ s.heap.size := Nat.le_of_lt (Nat.lt_of_le_of_lt (hh.ab hg_r0).1 (hh.ab hg_r0).2)
  have hRc : R.cells = LC - s.heap.size := by rw [← hR]; rfl
  have hRs : R.slots = LS - jTot s.heap := by rw [← hR]; rfl
  refine lv_aload_n hx hb dX11_position_0 rfl (lv_at hl 1 rfl) ?_
  refine lv_iload_n hx hb dX11_position_1 rfl (lv_at hl 2 rfl) ?_
  have hsz_1 := hh.2.2.2.2.2.1
  have htt_1 := hh.2.2.2.2.2.2.1
  refine W.room (fun hrc_1 hrs_1 => ?_)
  refine va_callv (A0 := jA base) (H0 := s.heap) (va_runV (As := [.int a2]) (rest := []) ⟨hx, hb, hml, hown, hts⟩ (uX1_seek l dC dI ca base B hB hAp hB3 hB101 G0 s.heap r1 a2) (cwV 1 hts (jgV (jWr_40 _ (List.mem_of_getElem? (i := 21) rfl)) (jWr_40 _ (List.mem_of_getElem? (i := 22) rfl)) (jWr_40 _ (List.mem_of_getElem? (i := 23) rfl)) (jWr_2 _ (List.mem_of_getElem? (i := 21) rfl)) (jWr_41 _ (List.mem_of_getElem? (i := 0) rfl))) rfl rfl rfl (by decide +kernel) ⟨by rw [← hR]; exact Nat.le_of_ble_eq_true rfl, by rw [← hR]; exact Nat.le_of_ble_eq_true rfl⟩) ⟨fun a U g mk q => by obtain ⟨q0, q1, q2, qK, q10, q11, q12⟩ := q; exact ⟨q0, q1, q2, jG.calling g mk a qK, q10, q11, q12⟩, hh.recv (C := RX1) (T := TX1) (N := 17) hB3 rfl (by decide) hg_r1 hK, fun U hU hW => ⟨rfl, hU, hh.2.1, hG.step hW hU hh.1, hg_r1, jP.nil, trivial⟩⟩ rfl rfl hl.1 rfl (lv_room (Nat.le_of_ble_eq_true rfl)) dX11_position_2 ⟨by rw [hRc]; show _ + 0 ≤ _; omega, by rw [hRs]; show _ + 0 ≤ _; omega⟩) hh.1 (fun q _ h => h) (fun q h => h) (fun u_1 t_1 H_1 locs_1 ht_1 hvm_1 hr_2 hb_1 hz_1 hk_1 hS_1 => ?_)
  rw [ht_1] at hb_1
  obtain ⟨hb_11, hb_12, hb_13, hb_14, hb_15⟩ := hb_1
  have hh_1 : jSt (dC, dI) B base G0 G0 EX11_position s.heap 0 0 [(r0, 13, 4, .ref bo), (bo, 2, 1, .int pc), (bo, 2, 0, .ref pa)] [] [(jFy, jYb dC dI G0)] H_1 locs_1 := ((hh.call hb_11 hb_12 hb_13 hb_14 hS_1 rfl (L1 := [(r0, 13, 4, .ref bo), (bo, 2, 1, .int pc), (bo, 2, 0, .ref pa)]) [0, 1, 2] rfl rfl (M1 := []) [] rfl rfl (I1 := [(jFy, jYb dC dI G0)]) [0] rfl rfl).more hb_15)
  clear hh ht_1 hvm_1 hz_1 hk_1 hS_1 hb_11 hb_12 hb_13 hb_14 hb_15
  refine lv_aload_n hx hb dX11_position_5 rfl (lv_at hl 0 rfl) ?_
  refine j7_read hx hb hown hK (C := RX11) (T := TX11) (N := 19) rfl hly_13_4 hlk_35 (hh_1.at 0 rfl) dX11_position_6 ?_
  refine j_ldcSw hx hb hown rstr534 dX11_position_9 ?_
  have hsz_3 := hh_1.2.2.2.2.2.1
  have htt_3 := hh_1.2.2.2.2.2.2.1
  refine W.room (fun hrc_3 hrs_3 => ?_)
  refine va_callv (A0 := jA base) (H0 := s.heap) (va_runV (As := [.ref str534]) (rest := []) ⟨hx, hb, hml, hown, hts⟩ (uX0_text l dC dI ca base B hB hAp hB2 hB196 G0 H_1 bo str534 8 pc pa n_pa LC LS) (cwV 1 hts (jgV (jWr_26 _ (List.mem_of_getElem? (i := 11) rfl)) (jWr_25 _ (List.mem_of_getElem? (i := 22) rfl)) (jWr_25 _ (List.mem_of_getElem? (i := 23) rfl)) (jWr_1 _ (List.mem_of_getElem? (i := 14) rfl)) (jWr_26 _ (List.mem_of_getElem? (i := 0) rfl))) rfl rfl rfl (by decide +kernel) ⟨by rw [← hR]; exact Nat.le_of_ble_eq_true rfl, by rw [← hR]; exact Nat.le_of_ble_eq_true rfl⟩) ⟨fun a U g mk q => by obtain ⟨q0, q1, q2, qK, q10, q11, q12, q13, q14⟩ := q; exact ⟨q0, q1, q2, jG.calling g mk a qK, (q10.moved (Vm.Alike.refl U.vm)), q11, q12, q13, q14⟩, hh_1.recv (C := RX0) (T := TX0) (N := 2) hB2 rfl (by decide) hg_bo hK, fun U hU hW => ⟨rfl, hU, hh_1.2.1, hG.step hW hU hh_1.1, (hstr534.moved hW.alike).kept hh_1.1.2.1, hg_bo, hg_pa, (hh_1.2.2.1.sub (L1 := [(bo, 2, 1, .int pc), (bo, 2, 0, .ref pa)]) [1, 2] rfl), (by omega), (by omega), ⟨(by first | omega | rfl | assumption | fail), (by first | omega | rfl | assumption | fail), (by first | omega | rfl | assumption | fail), (by first | omega | rfl | assumption | fail), (by first | assumption | fail | omega), (by first | omega | rfl | assumption | fail)⟩⟩⟩ rfl rfl hl.1 rfl (lv_room (Nat.le_of_ble_eq_true rfl)) dX11_position_12 ⟨by rw [hRc]; omega, by rw [hRs]; omega⟩) hh_1.1 (fun q _ h => h) (fun q h => h) (fun u_3 t_3 H_3 locs_3 ht_3 hvm_3 hr_4 hb_3 hz_3 hk_3 hS_3 => ?_)
  obtain ⟨qc_3, qa_3, m_qa_3, G_3⟩ := u_3
  rw [ht_3] at hb_3
  simp only at hb_3
  obtain ⟨⟨hb_31, hb_32, hb_33, hb_34, hb_35, hb_36⟩, hgq_3_0, hN_3, hbO_3⟩ := hb_3
  have hy_5 := hh_1.iv 0 rfl
  have hh_3 : jSt (dC, dI) B base G0 G_3 EX11_position s.heap (0 + ((m_qa_3 - n_pa) / 16)) (0 + (2 * (m_qa_3 - n_pa))) [(bo, 2, 1, .int qc_3), (bo, 2, 0, .ref qa_3), (r0, 13, 4, .ref bo)] [] [] H_3 locs_3 := (hh_1.callG hb_31 hb_32 hb_33 hb_34 hb_35 hS_3 rfl (L1 := [(r0, 13, 4, .ref bo)]) [0] rfl rfl (M1 := []) [] rfl rfl (I1 := []) [] rfl rfl).more hb_36
  have hNn_3 : (jNk [0, 1, 2, 3, 4, 5, 6, 7, 8, 9, 10, 11, 12, 13, 14, 15, 16]) G0 G_3 := (jNk.rf).tr hN_3
  have hg_6 := hb_32 _ _ hg_r0
  have hg_7 := hb_32 _ _ hg_r1
  have hg_8 := hb_32 _ _ hg_bo
  have hyp_3 : qc_3.toInt ≤ (m_qa_3 : Nat) ∧ m_qa_3 ≤ 1048576 := by (try simp only at hr_4); omega
  have hy_9 := jYb.own hy_5 hbO_3 hb_32 hN_3 (by decide) (fun _ => ⟨_, _, _, hh_3.at 0 rfl, hh_3.at 1 rfl, hgq_3_0, hyp_3⟩)
  have hh_10 := hh_3.addI (jYb.ie hy_9)
  clear hh_3
  try simp only at hr_4
  obtain ⟨hr_4_0, hr_4_1, hr_4_2, hr_4_3, hr_4_4⟩ := hr_4
  have hh_11 := hh_10.wk (zc1 := (m_qa_3 - n_pa) / 16) (zs1 := 2 * (m_qa_3 - n_pa)) (by omega) (by omega)
  clear hh_10
  try clear hsz_3 htt_3 hrc_3 hrs_3
  try clear hb_34 hb_35
  refine lv_aload_n hx hb dX11_position_15 rfl (lv_at hl 0 rfl) ?_
  refine j7_read hx hb hown hK (C := RX11) (T := TX11) (N := 19) rfl hly_13_4 hlk_35 (hh_11.at 2 rfl) dX11_position_16 ?_
  refine lv_aload_n hx hb dX11_position_19 rfl (lv_at hl 1 rfl) ?_
  obtain ⟨v_12, hv_12, hh_13⟩ := hh_11.pin (C := RX1) (T := TX1) (N := 17) hB3 rfl (by decide) hg_7 (i := 14) (by decide) rfl
  clear hh_11
  obtain ⟨line_14, rfl⟩ := hv_12
  refine j7_read hx hb hown hK (C := RX1) (T := TX1) (N := 17) rfl hly_3_14 hlk_536 (hh_13.at 0 rfl) dX11_position_20 ?_
  have hsz_15 := hh_13.2.2.2.2.2.1
  have htt_15 := hh_13.2.2.2.2.2.2.1
  refine W.room (fun hrc_15 hrs_15 => ?_)
  refine va_callv (A0 := jA base) (H0 := s.heap) (va_runV (As := [.int line_14]) (rest := []) ⟨hx, hb, hml, hown, hts⟩ (uX0_number l dC dI ca base B hB hAp hB2 hB196 G_3 H_3 bo line_14 qc_3 qa_3 m_qa_3 LC LS) (cwV 1 hts (jgV (jWr_26 _ (List.mem_of_getElem? (i := 16) rfl)) (jWr_24 _ (List.mem_of_getElem? (i := 16) rfl)) (jWr_24 _ (List.mem_of_getElem? (i := 17) rfl)) (jWr_1 _ (List.mem_of_getElem? (i := 14) rfl)) (jWr_24 _ (List.mem_of_getElem? (i := 18) rfl))) rfl rfl rfl (by decide +kernel) ⟨by rw [← hR]; exact Nat.le_of_ble_eq_true rfl, by rw [← hR]; exact Nat.le_of_ble_eq_true rfl⟩) ⟨fun a U g mk q => by obtain ⟨q0, q1, q2, qK, q10, q11, q12, q13⟩ := q; exact ⟨q0, q1, q2, jG.calling g mk a qK, q10, q11, q12, q13⟩, hh_13.recv (C := RX0) (T := TX0) (N := 2) hB2 rfl (by decide) hg_8 hK, fun U hU hW => ⟨rfl, hU, hh_13.2.1, hG.step hW hU hh_13.1, hg_8, hgq_3_0, (hh_13.2.2.1.sub (L1 := [(bo, 2, 1, .int qc_3), (bo, 2, 0, .ref qa_3)]) [1, 2] rfl), (by omega), (by omega), ⟨(by first | omega | rfl | assumption | fail), (by first | omega | rfl | assumption | fail), (by first | omega | rfl | assumption | fail), (by first | omega | rfl | assumption | fail), (by first | assumption | fail | omega)⟩⟩⟩ rfl rfl hl.1 rfl (lv_room (Nat.le_of_ble_eq_true rfl)) dX11_position_23 ⟨by rw [hRc]; omega, by rw [hRs]; omega⟩) hh_13.1 (fun q _ h => h) (fun q h => h) (fun u_15 t_15 H_15 locs_15 ht_15 hvm_15 hr_16 hb_15 hz_15 hk_15 hS_15 => ?_)
  obtain ⟨qc_15, qa_15, m_qa_15, G_15⟩ := u_15
  rw [ht_15] at hb_15
  simp only at hb_15
  obtain ⟨⟨hb_151, hb_152, hb_153, hb_154, hb_155, hb_156⟩, hgq_15_0, hN_15, hbO_15⟩ := hb_15
  have hy_17 := hh_13.iv 0 rfl
  have hh_15 : jSt (dC, dI) B base G0 G_15 EX11_position s.heap (((m_qa_3 - n_pa) / 16) + ((m_qa_15 - m_qa_3) / 16)) ((2 * (m_qa_3 - n_pa)) + (2 * (m_qa_15 - m_qa_3))) [(bo, 2, 1, .int qc_15), (bo, 2, 0, .ref qa_15), (r1, 3, 14, .int line_14), (r0, 13, 4, .ref bo)] [] [] H_15 locs_15 := (hh_13.callG hb_151 hb_152 hb_153 hb_154 hb_155 hS_15 rfl (L1 := [(r1, 3, 14, .int line_14), (r0, 13, 4, .ref bo)]) [0, 3] rfl rfl (M1 := []) [] rfl rfl (I1 := []) [] rfl rfl).more hb_156
  have hNn_15 : (jNk [0, 1, 2, 3, 4, 5, 6, 7, 8, 9, 10, 11, 12, 13, 14, 15, 16]) G0 G_15 := (hNn_3).tr hN_15
  have hg_18 := hb_152 _ _ hg_6
  have hg_19 := hb_152 _ _ hg_7
  have hg_20 := hb_152 _ _ hg_8
  have hyp_15 : qc_15.toInt ≤ (m_qa_15 : Nat) ∧ m_qa_15 ≤ 1048576 := by (try simp only at hr_16); omega
  have hy_21 := jYb.own hy_17 hbO_15 hb_152 hN_15 (by decide) (fun _ => ⟨_, _, _, hh_15.at 0 rfl, hh_15.at 1 rfl, hgq_15_0, hyp_15⟩)
  have hh_22 := hh_15.addI (jYb.ie hy_21)
  clear hh_15
  try simp only at hr_16
  obtain ⟨hr_16_0, hr_16_1, hr_16_2, hr_16_3, hr_16_4⟩ := hr_16
  have hh_23 := hh_22.wk (zc1 := (m_qa_15 - n_pa) / 16) (zs1 := 2 * (m_qa_15 - n_pa)) (by omega) (by omega)
  clear hh_22
  try clear hsz_15 htt_15 hrc_15 hrs_15
  try clear hb_154 hb_155
  refine lv_aload_n hx hb dX11_position_26 rfl (lv_at hl 0 rfl) ?_
  refine j7_read hx hb hown hK (C := RX11) (T := TX11) (N := 19) rfl hly_13_4 hlk_35 (hh_23.at 3 rfl) dX11_position_27 ?_
  refine j_ldcSw hx hb hown rstr538 dX11_position_30 ?_
  have hsz_24 := hh_23.2.2.2.2.2.1
  have htt_24 := hh_23.2.2.2.2.2.2.1
  refine W.room (fun hrc_24 hrs_24 => ?_)
  refine va_callv (A0 := jA base) (H0 := s.heap) (va_runV (As := [.ref str538]) (rest := []) ⟨hx, hb, hml, hown, hts⟩ (uX0_text l dC dI ca base B hB hAp hB2 hB196 G_15 H_15 bo str538 13 qc_15 qa_15 m_qa_15 LC LS) (cwV 1 hts (jgV (jWr_26 _ (List.mem_of_getElem? (i := 11) rfl)) (jWr_25 _ (List.mem_of_getElem? (i := 22) rfl)) (jWr_25 _ (List.mem_of_getElem? (i := 23) rfl)) (jWr_1 _ (List.mem_of_getElem? (i := 14) rfl)) (jWr_26 _ (List.mem_of_getElem? (i := 0) rfl))) rfl rfl rfl (by decide +kernel) ⟨by rw [← hR]; exact Nat.le_of_ble_eq_true rfl, by rw [← hR]; exact Nat.le_of_ble_eq_true rfl⟩) ⟨fun a U g mk q => by obtain ⟨q0, q1, q2, qK, q10, q11, q12, q13, q14⟩ := q; exact ⟨q0, q1, q2, jG.calling g mk a qK, (q10.moved (Vm.Alike.refl U.vm)), q11, q12, q13, q14⟩, hh_23.recv (C := RX0) (T := TX0) (N := 2) hB2 rfl (by decide) hg_20 hK, fun U hU hW => ⟨rfl, hU, hh_23.2.1, hG.step hW hU hh_23.1, (hstr538.moved hW.alike).kept hh_23.1.2.1, hg_20, hgq_15_0, (hh_23.2.2.1.sub (L1 := [(bo, 2, 1, .int qc_15), (bo, 2, 0, .ref qa_15)]) [0, 1] rfl), (by omega), (by omega), ⟨(by first | omega | rfl | assumption | fail), (by first | omega | rfl | assumption | fail), (by first | omega | rfl | assumption | fail), (by first | omega | rfl | assumption | fail), (by first | assumption | fail | omega), (by first | omega | rfl | assumption | fail)⟩⟩⟩ rfl rfl hl.1 rfl (lv_room (Nat.le_of_ble_eq_true rfl)) dX11_position_33 ⟨by rw [hRc]; omega, by rw [hRs]; omega⟩) hh_23.1 (fun q _ h => h) (fun q h => h) (fun u_24 t_24 H_24 locs_24 ht_24 hvm_24 hr_25 hb_24 hz_24 hk_24 hS_24 => ?_)
  obtain ⟨qc_24, qa_24, m_qa_24, G_24⟩ := u_24
  rw [ht_24] at hb_24
  simp only at hb_24
  obtain ⟨⟨hb_241, hb_242, hb_243, hb_244, hb_245, hb_246⟩, hgq_24_0, hN_24, hbO_24⟩ := hb_24
  have hy_26 := hh_23.iv 0 rfl
  have hh_24 : jSt (dC, dI) B base G0 G_24 EX11_position s.heap (((m_qa_15 - n_pa) / 16) + ((m_qa_24 - m_qa_15) / 16)) ((2 * (m_qa_15 - n_pa)) + (2 * (m_qa_24 - m_qa_15))) [(bo, 2, 1, .int qc_24), (bo, 2, 0, .ref qa_24), (r1, 3, 14, .int line_14), (r0, 13, 4, .ref bo)] [] [] H_24 locs_24 := (hh_23.callG hb_241 hb_242 hb_243 hb_244 hb_245 hS_24 rfl (L1 := [(r1, 3, 14, .int line_14), (r0, 13, 4, .ref bo)]) [2, 3] rfl rfl (M1 := []) [] rfl rfl (I1 := []) [] rfl rfl).more hb_246
  have hNn_24 : (jNk [0, 1, 2, 3, 4, 5, 6, 7, 8, 9, 10, 11, 12, 13, 14, 15, 16]) G0 G_24 := (hNn_15).tr hN_24
  have hg_27 := hb_242 _ _ hg_18
  have hg_28 := hb_242 _ _ hg_19
  have hg_29 := hb_242 _ _ hg_20
  have hyp_24 : qc_24.toInt ≤ (m_qa_24 : Nat) ∧ m_qa_24 ≤ 1048576 := by (try simp only at hr_25); omega
  have hy_30 := jYb.own hy_26 hbO_24 hb_242 hN_24 (by decide) (fun _ => ⟨_, _, _, hh_24.at 0 rfl, hh_24.at 1 rfl, hgq_24_0, hyp_24⟩)
  have hh_31 := hh_24.addI (jYb.ie hy_30)
  clear hh_24
  try simp only at hr_25
  obtain ⟨hr_25_0, hr_25_1, hr_25_2, hr_25_3, hr_25_4⟩ := hr_25
  have hh_32 := hh_31.wk (zc1 := (m_qa_24 - n_pa) / 16) (zs1 := 2 * (m_qa_24 - n_pa)) (by omega) (by omega)
  clear hh_31
  try clear hsz_24 htt_24 hrc_24 hrs_24
  try clear hb_244 hb_245
  refine lv_aload_n hx hb dX11_position_36 rfl (lv_at hl 0 rfl) ?_
  refine j7_read hx hb hown hK (C := RX11) (T := TX11) (N := 19) rfl hly_13_4 hlk_35 (hh_32.at 3 rfl) dX11_position_37 ?_
  refine lv_iload_n hx hb dX11_position_40 rfl (lv_at hl 2 rfl) ?_
  refine lv_aload_n hx hb dX11_position_41 rfl (lv_at hl 1 rfl) ?_
  obtain ⟨v_33, hv_33, hh_34⟩ := hh_32.pin (C := RX1) (T := TX1) (N := 17) hB3 rfl (by decide) hg_28 (i := 15) (by decide) rfl
  clear hh_32
  obtain ⟨lineStart_35, rfl⟩ := hv_33
  refine j7_read hx hb hown hK (C := RX1) (T := TX1) (N := 17) rfl hly_3_15 hlk_540 (hh_34.at 0 rfl) dX11_position_42 ?_
  refine lv_isub hx hb dX11_position_45 ?_
  refine lv_topi (fun z_36 ez_36 => ?_)
  have hsz_37 := hh_34.2.2.2.2.2.1
  have htt_37 := hh_34.2.2.2.2.2.2.1
  refine W.room (fun hrc_37 hrs_37 => ?_)
  refine va_callv (A0 := jA base) (H0 := s.heap) (va_runV (As := [.int z_36]) (rest := []) ⟨hx, hb, hml, hown, hts⟩ (uX0_number l dC dI ca base B hB hAp hB2 hB196 G_24 H_24 bo z_36 qc_24 qa_24 m_qa_24 LC LS) (cwV 1 hts (jgV (jWr_26 _ (List.mem_of_getElem? (i := 16) rfl)) (jWr_24 _ (List.mem_of_getElem? (i := 16) rfl)) (jWr_24 _ (List.mem_of_getElem? (i := 17) rfl)) (jWr_1 _ (List.mem_of_getElem? (i := 14) rfl)) (jWr_24 _ (List.mem_of_getElem? (i := 18) rfl))) rfl rfl rfl (by decide +kernel) ⟨by rw [← hR]; exact Nat.le_of_ble_eq_true rfl, by rw [← hR]; exact Nat.le_of_ble_eq_true rfl⟩) ⟨fun a U g mk q => by obtain ⟨q0, q1, q2, qK, q10, q11, q12, q13⟩ := q; exact ⟨q0, q1, q2, jG.calling g mk a qK, q10, q11, q12, q13⟩, hh_34.recv (C := RX0) (T := TX0) (N := 2) hB2 rfl (by decide) hg_29 hK, fun U hU hW => ⟨rfl, hU, hh_34.2.1, hG.step hW hU hh_34.1, hg_29, hgq_24_0, (hh_34.2.2.1.sub (L1 := [(bo, 2, 1, .int qc_24), (bo, 2, 0, .ref qa_24)]) [1, 2] rfl), (by omega), (by omega), ⟨(by first | omega | rfl | assumption | fail), (by first | omega | rfl | assumption | fail), (by first | omega | rfl | assumption | fail), (by first | omega | rfl | assumption | fail), (by first | assumption | fail | omega)⟩⟩⟩ rfl rfl hl.1 rfl (lv_room (Nat.le_of_ble_eq_true rfl)) dX11_position_46 ⟨by rw [hRc]; omega, by rw [hRs]; omega⟩) hh_34.1 (fun q _ h => h) (fun q h => h) (fun u_37 t_37 H_37 locs_37 ht_37 hvm_37 hr_38 hb_37 hz_37 hk_37 hS_37 => ?_)
  obtain ⟨qc_37, qa_37, m_qa_37, G_37⟩ := u_37
  rw [ht_37] at hb_37
  simp only at hb_37
  obtain ⟨⟨hb_371, hb_372, hb_373, hb_374, hb_375, hb_376⟩, hgq_37_0, hN_37, hbO_37⟩ := hb_37
  have hy_39 := hh_34.iv 0 rfl
  have hh_37 : jSt (dC, dI) B base G0 G_37 EX11_position s.heap (((m_qa_24 - n_pa) / 16) + ((m_qa_37 - m_qa_24) / 16)) ((2 * (m_qa_24 - n_pa)) + (2 * (m_qa_37 - m_qa_24))) [(bo, 2, 1, .int qc_37), (bo, 2, 0, .ref qa_37), (r1, 3, 15, .int lineStart_35), (r1, 3, 14, .int line_14), (r0, 13, 4, .ref bo)] [] [] H_37 locs_37 := (hh_34.callG hb_371 hb_372 hb_373 hb_374 hb_375 hS_37 rfl (L1 := [(r1, 3, 15, .int lineStart_35), (r1, 3, 14, .int line_14), (r0, 13, 4, .ref bo)]) [0, 3, 4] rfl rfl (M1 := []) [] rfl rfl (I1 := []) [] rfl rfl).more hb_376
  have hNn_37 : (jNk [0, 1, 2, 3, 4, 5, 6, 7, 8, 9, 10, 11, 12, 13, 14, 15, 16]) G0 G_37 := (hNn_24).tr hN_37
  have hg_40 := hb_372 _ _ hg_27
  have hg_41 := hb_372 _ _ hg_28
  have hg_42 := hb_372 _ _ hg_29
  have hyp_37 : qc_37.toInt ≤ (m_qa_37 : Nat) ∧ m_qa_37 ≤ 1048576 := by (try simp only at hr_38); omega
  have hy_43 := jYb.own hy_39 hbO_37 hb_372 hN_37 (by decide) (fun _ => ⟨_, _, _, hh_37.at 0 rfl, hh_37.at 1 rfl, hgq_37_0, hyp_37⟩)
  have hh_44 := hh_37.addI (jYb.ie hy_43)
  clear hh_37
  try simp only at hr_38
  obtain ⟨hr_38_0, hr_38_1, hr_38_2, hr_38_3, hr_38_4⟩ := hr_38
  have hh_45 := hh_44.wk (zc1 := (m_qa_37 - n_pa) / 16) (zs1 := 2 * (m_qa_37 - n_pa)) (by omega) (by omega)
  clear hh_44
  try clear hsz_37 htt_37 hrc_37 hrs_37
  try clear hb_374 hb_375
  refine lv_aload_n hx hb dX11_position_49 rfl (lv_at hl 0 rfl) ?_
  refine j7_read hx hb hown hK (C := RX11) (T := TX11) (N := 19) rfl hly_13_4 hlk_35 (hh_45.at 4 rfl) dX11_position_50 ?_
  refine lv_bipush (v := 125) hx hb dX11_position_53 (by decide) ?_
  have hsz_46 := hh_45.2.2.2.2.2.1
  have htt_46 := hh_45.2.2.2.2.2.2.1
  refine W.room (fun hrc_46 hrs_46 => ?_)
  refine va_callv (A0 := jA base) (H0 := s.heap) (va_runV (As := [.int 125]) (rest := []) ⟨hx, hb, hml, hown, hts⟩ (uX0_put l dC dI ca base B hB hAp hB2 hB196 G_37 H_37 bo 125 qc_37 qa_37 m_qa_37 LC LS) (cwV 1 hts (jgV (jWr_15 _ (List.mem_of_getElem? (i := 23) rfl)) (jWr_16 _ (List.mem_of_getElem? (i := 0) rfl)) (jWr_16 _ (List.mem_of_getElem? (i := 1) rfl)) (jWr_1 _ (List.mem_of_getElem? (i := 14) rfl)) (jWr_16 _ (List.mem_of_getElem? (i := 2) rfl))) rfl rfl rfl (by decide +kernel) ⟨by rw [← hR]; exact Nat.le_of_ble_eq_true rfl, by rw [← hR]; exact Nat.le_of_ble_eq_true rfl⟩) ⟨fun a U g mk q => by obtain ⟨q0, q1, q2, qK, q10, q11, q12, q13⟩ := q; exact ⟨q0, q1, q2, jG.calling g mk a qK, q10, q11, q12, q13⟩, hh_45.recv (C := RX0) (T := TX0) (N := 2) hB2 rfl (by decide) hg_42 hK, fun U hU hW => ⟨rfl, hU, hh_45.2.1, hG.step hW hU hh_45.1, hg_42, hgq_37_0, (hh_45.2.2.1.sub (L1 := [(bo, 2, 1, .int qc_37), (bo, 2, 0, .ref qa_37)]) [0, 1] rfl), (by omega), (by omega), ⟨(by first | omega | rfl | assumption | fail), (by first | omega | rfl | assumption | fail), (by first | omega | rfl | assumption | fail), (by first | omega | rfl | assumption | fail), (by first | assumption | fail | omega)⟩⟩⟩ rfl rfl hl.1 rfl (lv_room (Nat.le_of_ble_eq_true rfl)) dX11_position_55 ⟨by rw [hRc]; omega, by rw [hRs]; omega⟩) hh_45.1 (fun q _ h => h) (fun q h => h) (fun u_46 t_46 H_46 locs_46 ht_46 hvm_46 hr_47 hb_46 hz_46 hk_46 hS_46 => ?_)
  obtain ⟨qc_46, qa_46, m_qa_46, G_46⟩ := u_46
  rw [ht_46] at hb_46
  simp only at hb_46
  obtain ⟨⟨hb_461, hb_462, hb_463, hb_464, hb_465, hb_466⟩, hgq_46_0, hN_46, hbO_46⟩ := hb_46
  have hy_48 := hh_45.iv 0 rfl
  have hh_46 : jSt (dC, dI) B base G0 G_46 EX11_position s.heap (((m_qa_37 - n_pa) / 16) + ((m_qa_46 - m_qa_37) / 16)) ((2 * (m_qa_37 - n_pa)) + (2 * (m_qa_46 - m_qa_37))) [(bo, 2, 1, .int qc_46), (bo, 2, 0, .ref qa_46), (r1, 3, 15, .int lineStart_35), (r1, 3, 14, .int line_14), (r0, 13, 4, .ref bo)] [] [] H_46 locs_46 := (hh_45.callG hb_461 hb_462 hb_463 hb_464 hb_465 hS_46 rfl (L1 := [(r1, 3, 15, .int lineStart_35), (r1, 3, 14, .int line_14), (r0, 13, 4, .ref bo)]) [2, 3, 4] rfl rfl (M1 := []) [] rfl rfl (I1 := []) [] rfl rfl).more hb_466
  have hNn_46 : (jNk [0, 1, 2, 3, 4, 5, 6, 7, 8, 9, 10, 11, 12, 13, 14, 15, 16]) G0 G_46 := (hNn_37).tr hN_46
  have hg_49 := hb_462 _ _ hg_40
  have hg_50 := hb_462 _ _ hg_41
  have hg_51 := hb_462 _ _ hg_42
  have hyp_46 : qc_46.toInt ≤ (m_qa_46 : Nat) ∧ m_qa_46 ≤ 1048576 := by (try simp only at hr_47); omega
  have hy_52 := jYb.own hy_48 hbO_46 hb_462 hN_46 (by decide) (fun _ => ⟨_, _, _, hh_46.at 0 rfl, hh_46.at 1 rfl, hgq_46_0, hyp_46⟩)
  have hh_53 := hh_46.addI (jYb.ie hy_52)
  clear hh_46
  try simp only at hr_47
  obtain ⟨hr_47_0, hr_47_1, hr_47_2, hr_47_3, hr_47_4⟩ := hr_47
  have hh_54 := hh_53.wk (zc1 := (m_qa_46 - n_pa) / 16) (zs1 := 2 * (m_qa_46 - n_pa)) (by omega) (by omega)
  clear hh_53
  try clear hsz_46 htt_46 hrc_46 hrs_46
  try clear hb_464 hb_465
  have hsz_55 := hh_54.2.2.2.2.2.1
  have htt_55 := hh_54.2.2.2.2.2.2.1
  refine W.room (fun hrc_55 hrs_55 => ?_)
  refine W.widen (k := LC - s.heap.size) (n := LS - jTot s.heap) (by omega) (by omega) ?_
  rw [hQ]
  exact W.vret hx hb hr (fun t ht hW => ⟨⟨(qc_46, qa_46, m_qa_46, G_46), rfl, by (try dsimp only); exact ⟨(by first | omega | rfl | assumption | fail), (by first | omega | rfl | assumption | fail), (by first | omega | rfl | assumption | fail), (by first | omega | rfl | assumption | fail), (by first | assumption | fail | omega)⟩, ⟨hh_54.ra (by first | omega | (simp only; omega)) (by first | omega | (simp only; omega)) (M1 := [(bo, 2, 1, .int qc_46), (bo, 2, 0, .ref qa_46)]) [0, 1] rfl ht, hgq_46_0, hNn_46, by rw [ht]; exact hh_54.2.2.2.2.2.2.2.2.sub (L1 := [(jFy, jYb dC dI G_46)]) [0] rfl⟩⟩, by rw [ht]; try exact hh_54.1.1, fun q h9 hq => by rw [ht]; try exact hh_54.1.2.1 q h9 hq⟩) hh_54.1.2.2 dX11_position_58
set_option maxHeartbeats 4000000 in
set_option maxRecDepth 20000 in
theorem uX11_diagnostic (l : Launch) (dC : Nat → ClassId) (dI : Nat → Nat → Nat) (ca : Nat → ClassId) (base : Nat) (B : jF) (hB : jBok B) (hAp : jAp (dC, dI)) (hB2 : ∀ n G a H, B 2 n G a H ↔ jOb (dC, dI) 2 2 (F2 n G) a H) (hB3 : ∀ n G a H, B 3 n G a H ↔ jOb (dC, dI) 3 17 (F3 n G) a H) (hB11 : ∀ n G a H, B 11 n G a H ↔ jOb (dC, dI) 11 9 (F11 n G) a H) (hB13 : ∀ n G a H, B 13 n G a H ↔ jOb (dC, dI) 13 19 (F13 n G) a H) (hB101 : ∀ n G a H, B 101 n G a H ↔ jAr (dC, dI) (ca 1) (fun j z => True) n a H) (hB171 : ∀ n G a H, B 171 n G a H ↔ jAr (dC, dI) (ca 1) (fun j z => 0 ≤ z.toInt ∧ z.toInt ≤ 1500) n a H) (hB172 : ∀ n G a H, B 172 n G a H ↔ jAr (dC, dI) (ca 1) (fun j z => 0 ≤ z.toInt ∧ z.toInt ≤ 1500) n a H) (hB196 : ∀ n G a H, B 196 n G a H ↔ jAr (dC, dI) (ca 0) (fun j z => jBf j z) n a H) (hB210 : ∀ n G a H, B 210 n G a H ↔ jAq (dC, dI) (ca 6) (jQn 11 0) n G a H) (G0 : jT) (H0 : Heap) (r0 : Nat) (r1 : Nat) (a2 : Int32) (bo : Nat) (pc : Int32) (pa : Nat) (n_pa : Nat) (bh : Nat) (fq : Nat → Option Nat) (LC LS : Nat) : Met l yX11_diagnostic (jw yX11_diagnostic cX11_diagnostic 3 none) ({ frames := 6, cells := LC - H0.size, slots := LS - jTot H0, locals := 185 }) (va_Pc [.ref r0, .ref r1, .int a2] (fun U => U.heap = H0 ∧ jX B base G0 [] H0 ∧ jG dC dI ca base U ∧ jK2 dC dI ca U ∧ G0 r1 = some (3, 0) ∧ G0 r0 = some (13, 0) ∧ G0 bo = some (2, 0) ∧ G0 pa = some (196, n_pa) ∧ G0 bh = some (210, 40) ∧ jP (dC, dI) G0 H0 [(r0, 13, 4, .ref bo), (bo, 2, 1, .int pc), (bo, 2, 0, .ref pa), (r1, 3, 9, .ref bh)] ∧ jIs (dC, dI) G0 H0 [(jFy, jYb dC dI G0), ([(210, 0)], jQc dC dI (ca 6) bh 40 fq)] ∧ H0.size + (1048576 - n_pa) / 16 + 1 ≤ LC ∧ jTot H0 + 2 * (1048576 - n_pa) ≤ LS ∧ 0 ≤ pc.toInt ∧ pc.toInt ≤ n_pa ∧ 16 ≤ n_pa ∧ n_pa ≤ 1048576 ∧ jPw n_pa ∧ 0 ≤ a2.toInt ∧ a2.toInt ≤ 39 ∧ fq (a2.toInt).toNat ≠ none)) (va_Qv (S := Int32 × Nat × Nat × jT) (fun u => 0 ≤ u.1.toInt ∧ u.1.toInt ≤ u.2.2.1 ∧ n_pa ≤ u.2.2.1 ∧ u.2.2.1 ≤ 1048576 ∧ jPw u.2.2.1) (fun u t => jRa (dC, dI) B base G0 u.2.2.2 EX11_diagnostic H0 ((u.2.2.1 - n_pa) / 16) (2 * (u.2.2.1 - n_pa)) [(bo, 2, 1, .int u.1), (bo, 2, 0, .ref u.2.1)] t.heap ∧ u.2.2.2 u.2.1 = some (196, u.2.2.1) ∧ (jNk [0, 1, 2, 3, 4, 5, 6, 7, 8, 9, 10, 11, 12, 13, 14, 15, 16]) G0 u.2.2.2 ∧ jIs (dC, dI) u.2.2.2 t.heap [(jFy, jYb dC dI u.2.2.2)]) (jA base)) (LC - H0.size) (LS - jTot H0) (jA base) := by
  refine Met.ofW (cc := cX11_diagnostic) (maxL := 3) (ret := none) (by decide) rfl ?_
  intro p e s m args below meth c s₁ Bd hml hv
  obtain ⟨rfl, hH0, hX, hG, hK2, hg_r1, hg_r0, hg_bo, hg_pa, hg_bh, hP0, hI0, hLC0, hLS0, hp0, hp1, hp2, hp3, hp4, hp5, hp6, hp7⟩ := hv
  have hK := hG.1
  have hx := Bd.exec
  have hb := Bd.bytes
  have hr := Bd.returns
  have hts := atoms_spec (ws := (jw yX11_diagnostic cX11_diagnostic 3 none)) Bd.pre
  have htw : ∀ w ∈ jWl, w.before _ s = true := fun w h => hts w (List.mem_cons_of_mem _ h)
  have hown : s.vm.findClass RX11 = some m.cls := findClass_of_methodNamed Bd.named
  have hlocks := Bd.notSynchronized
  obtain ⟨Q, hQ⟩ : ∃ Q, Q = MQ below (va_Qv (S := Int32 × Nat × Nat × jT) (fun u => 0 ≤ u.1.toInt ∧ u.1.toInt ≤ u.2.2.1 ∧ n_pa ≤ u.2.2.1 ∧ u.2.2.1 ≤ 1048576 ∧ jPw u.2.2.1) (fun u t => jRa (dC, dI) B base G0 u.2.2.2 EX11_diagnostic H0 ((u.2.2.1 - n_pa) / 16) (2 * (u.2.2.1 - n_pa)) [(bo, 2, 1, .int u.1), (bo, 2, 0, .ref u.2.1)] t.heap ∧ u.2.2.2 u.2.1 = some (196, u.2.2.1) ∧ (jNk [0, 1, 2, 3, 4, 5, 6, 7, 8, 9, 10, 11, 12, 13, 14, 15, 16]) G0 u.2.2.2 ∧ jIs (dC, dI) u.2.2.2 t.heap [(jFy, jYb dC dI u.2.2.2)]) (jA base)) ([.ref r0, .ref r1, .int a2] : List Value).toArray s (LC - H0.size) (LS - jTot H0) (jA base) := ⟨_, rfl⟩
  rw [← hQ]
  have hl := lv_entry ([.ref r0, .ref r1, .int a2]) (n := 3) (Nat.le_of_ble_eq_true rfl)
  rw [lg_entry_eq]
  generalize (lg_sl ([.ref r0, .ref r1, .int a2]) ++ List.replicate (3 - (lg_sl ([.ref r0, .ref r1, .int a2])).length) Slot.unset).toArray = ls at hl ⊢
  have hl : lv_has ls 3 [(0, .ref r0), (1, .ref r1), (2, .int a2)] := hl
  generalize hR : (headSpec (jw yX11_diagnostic cX11_diagnostic 3 none) ({ frames := 6, cells := LC - H0.size, slots := LS - jTot H0, locals := 185 })).room = R
  subst hH0
  have hh : jSt (dC, dI) B base G0 G0 EX11_diagnostic s.heap 0 0 [(r0, 13, 4, .ref bo), (bo, 2, 1, .int pc), (bo, 2, 0, .ref pa), (r1, 3, 9, .ref bh)] [] [(jFy, jYb dC dI G0), ([(210, 0)], jQc dC dI (ca 6) bh 40 fq)] s.heap [] := jSt.start hX hP0 jMc.nil hI0
  clear hX hP0
  have hk0 : (0 : Int32).toInt = 0 := by decide
  have hk1 : (1 : Int32).toInt = 1 := by decide
  have hly_3_5 := htw (u_lay RX1 TX1 5) (jWc_wsX10 _ (u_in_lay (by decide)))
  have hly_3_6 := htw (u_lay RX1 TX1 6) (jWc_wsX10 _ (u_in_lay (by decide)))
  have hly_3_9 := htw (u_lay RX1 TX1 9) (jWc_wsX10 _ (u_in_lay (by decide)))
  have hly_11_2 := htw (u_lay RX9 TX9 2) (jWc_wsX90 _ (u_in_lay (by decide)))
  have hly_13_4 := htw (u_lay RX11 TX11 4) (jWc_wsX110 _ (u_in_lay (by decide)))
  have hlk_35 := (htw (.fieldLink RX11 35 "ProofServer" "body" "LProofServer$Bytes;") (jWr_2 _ (List.mem_of_getElem? (i := 1) rfl)))
  obtain ⟨str518, rstr518, hstr5180⟩ := hG.str (o := RX11) (k := 518) (tx := "{\"range\":{\"start\":") (List.mem_of_getElem? (i := 1224) (by decide +kernel))
  have hstr518 : jStr base str518 18 s s.heap := hstr5180
  have hlk_182 := (htw (.fieldLink RX11 182 "ProofServer$Document" "starts" "[I") (jWr_40 _ (List.mem_of_getElem? (i := 13) rfl)))
  obtain ⟨str522, rstr522, hstr5220⟩ := hG.str (o := RX11) (k := 522) (tx := ",\"end\":") (List.mem_of_getElem? (i := 1235) (by decide +kernel))
  have hstr522 : jStr base str522 7 s s.heap := hstr5220
  have hlk_185 := (htw (.fieldLink RX11 185 "ProofServer$Document" "ends" "[I") (jWr_40 _ (List.mem_of_getElem? (i := 14) rfl)))
  obtain ⟨str524, rstr524, hstr5240⟩ := hG.str (o := RX11) (k := 524) (tx := "},\"severity\":1,\"message\":\"") (List.mem_of_getElem? (i := 1236) (by decide +kernel))
  have hstr524 : jStr base str524 26 s s.heap := hstr5240
  have hlk_178 := (htw (.fieldLink RX11 178 "ProofServer$Document" "behind" "[LProofServer$State;") (jWr_39 _ (List.mem_of_getElem? (i := 23) rfl)))
  have hlk_188 := (htw (.fieldLink RX11 188 "ProofServer$State" "fault" "I") (jWr_40 _ (List.mem_of_getElem? (i := 0) rfl)))
  obtain ⟨str529, rstr529, hstr5290⟩ := hG.str (o := RX11) (k := 529) (tx := "\"}") (List.mem_of_getElem? (i := 1249) (by decide +kernel))
  have hstr529 : jStr base str529 2 s s.heap := hstr5290
  have hrg_a2 := jb_rng a2
  have hbs : base ≤ s.heap.size := Nat.le_of_lt (Nat.lt_of_le_of_lt (hh.ab hg_r0).1 (hh.ab hg_r0).2)
  have hbs : base ≤ s.heap.size := Nat.le_of_lt (Nat.lt_of_le_of_lt (hh.ab hg_r0).1 (hh.ab hg_r0).2)
  have hRc : R.cells = LC - s.heap.size := by rw [← hR]; rfl
  have hRs : R.slots = LS - jTot s.heap := by rw [← hR]; rfl
  refine lv_aload_n hx hb dX11_diagnostic_0 rfl (lv_at hl 0 rfl) ?_
  refine j7_read hx hb hown hK (C := RX11) (T := TX11) (N := 19) rfl hly_13_4 hlk_35 (hh.at 0 rfl) dX11_diagnostic_1 ?_
  refine j_ldcSw hx hb hown rstr518 dX11_diagnostic_4 ?_
  have hsz_1 := hh.2.2.2.2.2.1
  have htt_1 := hh.2.2.2.2.2.2.1
  refine W.room (fun hrc_1 hrs_1 => ?_)
  refine va_callv (A0 := jA base) (H0 := s.heap) (va_runV (As := [.ref str518]) (rest := []) ⟨hx, hb, hml, hown, hts⟩ (uX0_text l dC dI ca base B hB hAp hB2 hB196 G0 s.heap bo str518 18 pc pa n_pa LC LS) (cwV 1 hts (jgV (jWr_26 _ (List.mem_of_getElem? (i := 11) rfl)) (jWr_25 _ (List.mem_of_getElem? (i := 22) rfl)) (jWr_25 _ (List.mem_of_getElem? (i := 23) rfl)) (jWr_1 _ (List.mem_of_getElem? (i := 14) rfl)) (jWr_26 _ (List.mem_of_getElem? (i := 0) rfl))) rfl rfl rfl (by decide +kernel) ⟨by rw [← hR]; exact Nat.le_of_ble_eq_true rfl, by rw [← hR]; exact Nat.le_of_ble_eq_true rfl⟩) ⟨fun a U g mk q => by obtain ⟨q0, q1, q2, qK, q10, q11, q12, q13, q14⟩ := q; exact ⟨q0, q1, q2, jG.calling g mk a qK, (q10.moved (Vm.Alike.refl U.vm)), q11, q12, q13, q14⟩, hh.recv (C := RX0) (T := TX0) (N := 2) hB2 rfl (by decide) hg_bo hK, fun U hU hW => ⟨rfl, hU, hh.2.1, hG.step hW hU hh.1, (hstr518.moved hW.alike).kept hh.1.2.1, hg_bo, hg_pa, (hh.2.2.1.sub (L1 := [(bo, 2, 1, .int pc), (bo, 2, 0, .ref pa)]) [1, 2] rfl), (by omega), (by omega), ⟨(by first | omega | rfl | assumption | fail), (by first | omega | rfl | assumption | fail), (by first | omega | rfl | assumption | fail), (by first | omega | rfl | assumption | fail), (by first | assumption | fail | omega), (by first | omega | rfl | assumption | fail)⟩⟩⟩ rfl rfl hl.1 rfl (lv_room (Nat.le_of_ble_eq_true rfl)) dX11_diagnostic_7 ⟨by rw [hRc]; omega, by rw [hRs]; omega⟩) hh.1 (fun q _ h => h) (fun q h => h) (fun u_1 t_1 H_1 locs_1 ht_1 hvm_1 hr_2 hb_1 hz_1 hk_1 hS_1 => ?_)
  obtain ⟨qc_1, qa_1, m_qa_1, G_1⟩ := u_1
  rw [ht_1] at hb_1
  simp only at hb_1
  obtain ⟨⟨hb_11, hb_12, hb_13, hb_14, hb_15, hb_16⟩, hgq_1_0, hN_1, hbO_1⟩ := hb_1
  have hy_3 := hh.iv 0 rfl
  have hh_1 : jSt (dC, dI) B base G0 G_1 EX11_diagnostic s.heap (0 + ((m_qa_1 - n_pa) / 16)) (0 + (2 * (m_qa_1 - n_pa))) [(bo, 2, 1, .int qc_1), (bo, 2, 0, .ref qa_1), (r0, 13, 4, .ref bo), (r1, 3, 9, .ref bh)] [] [([(210, 0)], jQc dC dI (ca 6) bh 40 fq)] H_1 locs_1 := (hh.callG hb_11 hb_12 hb_13 hb_14 hb_15 hS_1 rfl (L1 := [(r0, 13, 4, .ref bo), (r1, 3, 9, .ref bh)]) [0, 3] rfl rfl (M1 := []) [] rfl rfl (I1 := [([(210, 0)], jQc dC dI (ca 6) bh 40 fq)]) [1] rfl rfl).more hb_16
  have hNn_1 : (jNk [0, 1, 2, 3, 4, 5, 6, 7, 8, 9, 10, 11, 12, 13, 14, 15, 16]) G0 G_1 := (jNk.rf).tr hN_1
  have hg_4 := hb_12 _ _ hg_r0
  have hg_5 := hb_12 _ _ hg_r1
  have hg_6 := hb_12 _ _ hg_bo
  have hg_7 := hb_12 _ _ hg_bh
  have hyp_1 : qc_1.toInt ≤ (m_qa_1 : Nat) ∧ m_qa_1 ≤ 1048576 := by (try simp only at hr_2); omega
  have hy_9 := jYb.own hy_3 hbO_1 hb_12 hN_1 (by decide) (fun _ => ⟨_, _, _, hh_1.at 0 rfl, hh_1.at 1 rfl, hgq_1_0, hyp_1⟩)
  have hh_10 := hh_1.addI (jYb.ie hy_9)
  clear hh_1
  try simp only at hr_2
  obtain ⟨hr_2_0, hr_2_1, hr_2_2, hr_2_3, hr_2_4⟩ := hr_2
  have hh_11 := hh_10.wk (zc1 := (m_qa_1 - n_pa) / 16) (zs1 := 2 * (m_qa_1 - n_pa)) (by omega) (by omega)
  clear hh_10
  try clear hsz_1 htt_1 hrc_1 hrs_1
  try clear hb_14 hb_15
  refine lv_aload_n hx hb dX11_diagnostic_10 rfl (lv_at hl 0 rfl) ?_
  refine lv_aload_n hx hb dX11_diagnostic_11 rfl (lv_at hl 1 rfl) ?_
  refine lv_aload_n hx hb dX11_diagnostic_12 rfl (lv_at hl 1 rfl) ?_
  obtain ⟨v_12, hv_12, hh_13⟩ := hh_11.pin (C := RX1) (T := TX1) (N := 17) hB3 rfl (by decide) hg_5 (i := 5) (by decide) rfl
  clear hh_11
  obtain ⟨starts_14, rfl, hg_starts_14⟩ := hv_12
  refine j7_read hx hb hown hK (C := RX1) (T := TX1) (N := 17) rfl hly_3_5 hlk_182 (hh_13.at 0 rfl) dX11_diagnostic_13 ?_
  refine lv_iload_n hx hb dX11_diagnostic_16 rfl (lv_at hl 2 rfl) ?_
  refine j7_iald hx hb hK hh_13 hB171 1 rfl (by decide) hg_starts_14 (x := a2.toInt) (rfl) (by omega) dX11_diagnostic_17 (fun z_15 (hz_15 : 0 ≤ z_15.toInt ∧ z_15.toInt ≤ 1500) => ?_)
  have hsz_16 := hh_13.2.2.2.2.2.1
  have htt_16 := hh_13.2.2.2.2.2.2.1
  refine W.room (fun hrc_16 hrs_16 => ?_)
  refine va_callv (A0 := jA base) (H0 := s.heap) (va_runV (As := [.ref r1, .int z_15]) (rest := []) ⟨hx, hb, hml, hown, hts⟩ (uX11_position l dC dI ca base B hB hAp hB2 hB3 hB13 hB101 hB196 G_1 H_1 r0 r1 z_15 bo qc_1 qa_1 m_qa_1 LC LS) (cwV 2 hts (jgV (jWr_40 _ (List.mem_of_getElem? (i := 15) rfl)) (jWr_40 _ (List.mem_of_getElem? (i := 16) rfl)) (jWr_40 _ (List.mem_of_getElem? (i := 17) rfl)) (jWr_1 _ (List.mem_of_getElem? (i := 2) rfl)) (jWr_40 _ (List.mem_of_getElem? (i := 18) rfl))) rfl rfl rfl (by decide +kernel) ⟨by rw [← hR]; exact Nat.le_of_ble_eq_true rfl, by rw [← hR]; exact Nat.le_of_ble_eq_true rfl⟩) ⟨fun a U g mk q => by obtain ⟨q0, q1, q2, qK, q10, q11, q12, q13, q14, q15, q16⟩ := q; exact ⟨q0, q1, q2, jG.calling g mk a qK, q10, q11, q12, q13, q14, q15, q16⟩, hh_13.recv (C := RX11) (T := TX11) (N := 19) hB13 rfl (by decide) hg_4 hK, fun U hU hW => ⟨rfl, hU, hh_13.2.1, hG.step hW hU hh_13.1, hg_5, hg_4, hg_6, hgq_1_0, (hh_13.2.2.1.sub (L1 := [(r0, 13, 4, .ref bo), (bo, 2, 1, .int qc_1), (bo, 2, 0, .ref qa_1)]) [3, 1, 2] rfl), (hh_13.2.2.2.2.2.2.2.2.sub (L1 := [(jFy, jYb dC dI G_1)]) [0] rfl), (by omega), (by omega), ⟨(by first | omega | rfl | assumption | fail), (by first | omega | rfl | assumption | fail), (by first | omega | rfl | assumption | fail), (by first | omega | rfl | assumption | fail), (by first | assumption | fail | omega)⟩⟩⟩ rfl rfl hl.1 rfl (lv_room (Nat.le_of_ble_eq_true rfl)) dX11_diagnostic_18 ⟨by rw [hRc]; omega, by rw [hRs]; omega⟩) hh_13.1 (fun q _ h => h) (fun q h => h) (fun u_16 t_16 H_16 locs_16 ht_16 hvm_16 hr_17 hb_16 hz_16 hk_16 hS_16 => ?_)
  obtain ⟨qc_16, qa_16, m_qa_16, G_16⟩ := u_16
  rw [ht_16] at hb_16
  simp only at hb_16
  obtain ⟨⟨hb_161, hb_162, hb_163, hb_164, hb_165, hb_166⟩, hgq_16_0, hN_16, hbE_16⟩ := hb_16
  have hh_16 : jSt (dC, dI) B base G0 G_16 EX11_diagnostic s.heap (((m_qa_1 - n_pa) / 16) + ((m_qa_16 - m_qa_1) / 16)) ((2 * (m_qa_1 - n_pa)) + (2 * (m_qa_16 - m_qa_1))) [(bo, 2, 1, .int qc_16), (bo, 2, 0, .ref qa_16), (r1, 3, 5, .ref starts_14), (r0, 13, 4, .ref bo), (r1, 3, 9, .ref bh)] [] [([(210, 0)], jQc dC dI (ca 6) bh 40 fq)] H_16 locs_16 := (hh_13.callG hb_161 hb_162 hb_163 hb_164 hb_165 hS_16 rfl (L1 := [(r1, 3, 5, .ref starts_14), (r0, 13, 4, .ref bo), (r1, 3, 9, .ref bh)]) [0, 3, 4] rfl rfl (M1 := []) [] rfl rfl (I1 := [([(210, 0)], jQc dC dI (ca 6) bh 40 fq)]) [1] rfl rfl).more hb_166
  have hNn_16 : (jNk [0, 1, 2, 3, 4, 5, 6, 7, 8, 9, 10, 11, 12, 13, 14, 15, 16]) G0 G_16 := (hNn_1).tr hN_16
  have hg_18 := hb_162 _ _ hg_4
  have hg_19 := hb_162 _ _ hg_5
  have hg_20 := hb_162 _ _ hg_starts_14
  have hg_21 := hb_162 _ _ hg_6
  have hg_22 := hb_162 _ _ hg_7
  have hh_24 := hh_16.addIs hbE_16
  try simp only at hr_17
  obtain ⟨hr_17_0, hr_17_1, hr_17_2, hr_17_3, hr_17_4⟩ := hr_17
  have hh_25 := hh_24.wk (zc1 := (m_qa_16 - n_pa) / 16) (zs1 := 2 * (m_qa_16 - n_pa)) (by omega) (by omega)
  clear hh_24
  try clear hsz_16 htt_16 hrc_16 hrs_16
  try clear hb_164 hb_165
  refine lv_aload_n hx hb dX11_diagnostic_21 rfl (lv_at hl 0 rfl) ?_
  refine j7_read hx hb hown hK (C := RX11) (T := TX11) (N := 19) rfl hly_13_4 hlk_35 (hh_25.at 3 rfl) dX11_diagnostic_22 ?_
  refine j_ldcSw hx hb hown rstr522 dX11_diagnostic_25 ?_
  have hsz_26 := hh_25.2.2.2.2.2.1
  have htt_26 := hh_25.2.2.2.2.2.2.1
  refine W.room (fun hrc_26 hrs_26 => ?_)
  refine va_callv (A0 := jA base) (H0 := s.heap) (va_runV (As := [.ref str522]) (rest := []) ⟨hx, hb, hml, hown, hts⟩ (uX0_text l dC dI ca base B hB hAp hB2 hB196 G_16 H_16 bo str522 7 qc_16 qa_16 m_qa_16 LC LS) (cwV 1 hts (jgV (jWr_26 _ (List.mem_of_getElem? (i := 11) rfl)) (jWr_25 _ (List.mem_of_getElem? (i := 22) rfl)) (jWr_25 _ (List.mem_of_getElem? (i := 23) rfl)) (jWr_1 _ (List.mem_of_getElem? (i := 14) rfl)) (jWr_26 _ (List.mem_of_getElem? (i := 0) rfl))) rfl rfl rfl (by decide +kernel) ⟨by rw [← hR]; exact Nat.le_of_ble_eq_true rfl, by rw [← hR]; exact Nat.le_of_ble_eq_true rfl⟩) ⟨fun a U g mk q => by obtain ⟨q0, q1, q2, qK, q10, q11, q12, q13, q14⟩ := q; exact ⟨q0, q1, q2, jG.calling g mk a qK, (q10.moved (Vm.Alike.refl U.vm)), q11, q12, q13, q14⟩, hh_25.recv (C := RX0) (T := TX0) (N := 2) hB2 rfl (by decide) hg_21 hK, fun U hU hW => ⟨rfl, hU, hh_25.2.1, hG.step hW hU hh_25.1, (hstr522.moved hW.alike).kept hh_25.1.2.1, hg_21, hgq_16_0, (hh_25.2.2.1.sub (L1 := [(bo, 2, 1, .int qc_16), (bo, 2, 0, .ref qa_16)]) [0, 1] rfl), (by omega), (by omega), ⟨(by first | omega | rfl | assumption | fail), (by first | omega | rfl | assumption | fail), (by first | omega | rfl | assumption | fail), (by first | omega | rfl | assumption | fail), (by first | assumption | fail | omega), (by first | omega | rfl | assumption | fail)⟩⟩⟩ rfl rfl hl.1 rfl (lv_room (Nat.le_of_ble_eq_true rfl)) dX11_diagnostic_28 ⟨by rw [hRc]; omega, by rw [hRs]; omega⟩) hh_25.1 (fun q _ h => h) (fun q h => h) (fun u_26 t_26 H_26 locs_26 ht_26 hvm_26 hr_27 hb_26 hz_26 hk_26 hS_26 => ?_)
  obtain ⟨qc_26, qa_26, m_qa_26, G_26⟩ := u_26
  rw [ht_26] at hb_26
  simp only at hb_26
  obtain ⟨⟨hb_261, hb_262, hb_263, hb_264, hb_265, hb_266⟩, hgq_26_0, hN_26, hbO_26⟩ := hb_26
  have hy_28 := hh_25.iv 0 rfl
  have hh_26 : jSt (dC, dI) B base G0 G_26 EX11_diagnostic s.heap (((m_qa_16 - n_pa) / 16) + ((m_qa_26 - m_qa_16) / 16)) ((2 * (m_qa_16 - n_pa)) + (2 * (m_qa_26 - m_qa_16))) [(bo, 2, 1, .int qc_26), (bo, 2, 0, .ref qa_26), (r1, 3, 5, .ref starts_14), (r0, 13, 4, .ref bo), (r1, 3, 9, .ref bh)] [] [([(210, 0)], jQc dC dI (ca 6) bh 40 fq)] H_26 locs_26 := (hh_25.callG hb_261 hb_262 hb_263 hb_264 hb_265 hS_26 rfl (L1 := [(r1, 3, 5, .ref starts_14), (r0, 13, 4, .ref bo), (r1, 3, 9, .ref bh)]) [2, 3, 4] rfl rfl (M1 := []) [] rfl rfl (I1 := [([(210, 0)], jQc dC dI (ca 6) bh 40 fq)]) [1] rfl rfl).more hb_266
  have hNn_26 : (jNk [0, 1, 2, 3, 4, 5, 6, 7, 8, 9, 10, 11, 12, 13, 14, 15, 16]) G0 G_26 := (hNn_16).tr hN_26
  have hg_29 := hb_262 _ _ hg_18
  have hg_30 := hb_262 _ _ hg_19
  have hg_31 := hb_262 _ _ hg_20
  have hg_32 := hb_262 _ _ hg_21
  have hg_33 := hb_262 _ _ hg_22
  have hyp_26 : qc_26.toInt ≤ (m_qa_26 : Nat) ∧ m_qa_26 ≤ 1048576 := by (try simp only at hr_27); omega
  have hy_35 := jYb.own hy_28 hbO_26 hb_262 hN_26 (by decide) (fun _ => ⟨_, _, _, hh_26.at 0 rfl, hh_26.at 1 rfl, hgq_26_0, hyp_26⟩)
  have hh_36 := hh_26.addI (jYb.ie hy_35)
  clear hh_26
  try simp only at hr_27
  obtain ⟨hr_27_0, hr_27_1, hr_27_2, hr_27_3, hr_27_4⟩ := hr_27
  have hh_37 := hh_36.wk (zc1 := (m_qa_26 - n_pa) / 16) (zs1 := 2 * (m_qa_26 - n_pa)) (by omega) (by omega)
  clear hh_36
  try clear hsz_26 htt_26 hrc_26 hrs_26
  try clear hb_264 hb_265
  refine lv_aload_n hx hb dX11_diagnostic_31 rfl (lv_at hl 0 rfl) ?_
  refine lv_aload_n hx hb dX11_diagnostic_32 rfl (lv_at hl 1 rfl) ?_
  refine lv_aload_n hx hb dX11_diagnostic_33 rfl (lv_at hl 1 rfl) ?_
  obtain ⟨v_38, hv_38, hh_39⟩ := hh_37.pin (C := RX1) (T := TX1) (N := 17) hB3 rfl (by decide) hg_30 (i := 6) (by decide) rfl
  clear hh_37
  obtain ⟨ends_40, rfl, hg_ends_40⟩ := hv_38
  refine j7_read hx hb hown hK (C := RX1) (T := TX1) (N := 17) rfl hly_3_6 hlk_185 (hh_39.at 0 rfl) dX11_diagnostic_34 ?_
  refine lv_iload_n hx hb dX11_diagnostic_37 rfl (lv_at hl 2 rfl) ?_
  refine j7_iald hx hb hK hh_39 hB172 1 rfl (by decide) hg_ends_40 (x := a2.toInt) (rfl) (by omega) dX11_diagnostic_38 (fun z_41 (hz_41 : 0 ≤ z_41.toInt ∧ z_41.toInt ≤ 1500) => ?_)
  have hsz_42 := hh_39.2.2.2.2.2.1
  have htt_42 := hh_39.2.2.2.2.2.2.1
  refine W.room (fun hrc_42 hrs_42 => ?_)
  refine va_callv (A0 := jA base) (H0 := s.heap) (va_runV (As := [.ref r1, .int z_41]) (rest := []) ⟨hx, hb, hml, hown, hts⟩ (uX11_position l dC dI ca base B hB hAp hB2 hB3 hB13 hB101 hB196 G_26 H_26 r0 r1 z_41 bo qc_26 qa_26 m_qa_26 LC LS) (cwV 2 hts (jgV (jWr_40 _ (List.mem_of_getElem? (i := 15) rfl)) (jWr_40 _ (List.mem_of_getElem? (i := 16) rfl)) (jWr_40 _ (List.mem_of_getElem? (i := 17) rfl)) (jWr_1 _ (List.mem_of_getElem? (i := 2) rfl)) (jWr_40 _ (List.mem_of_getElem? (i := 18) rfl))) rfl rfl rfl (by decide +kernel) ⟨by rw [← hR]; exact Nat.le_of_ble_eq_true rfl, by rw [← hR]; exact Nat.le_of_ble_eq_true rfl⟩) ⟨fun a U g mk q => by obtain ⟨q0, q1, q2, qK, q10, q11, q12, q13, q14, q15, q16⟩ := q; exact ⟨q0, q1, q2, jG.calling g mk a qK, q10, q11, q12, q13, q14, q15, q16⟩, hh_39.recv (C := RX11) (T := TX11) (N := 19) hB13 rfl (by decide) hg_29 hK, fun U hU hW => ⟨rfl, hU, hh_39.2.1, hG.step hW hU hh_39.1, hg_30, hg_29, hg_32, hgq_26_0, (hh_39.2.2.1.sub (L1 := [(r0, 13, 4, .ref bo), (bo, 2, 1, .int qc_26), (bo, 2, 0, .ref qa_26)]) [4, 1, 2] rfl), (hh_39.2.2.2.2.2.2.2.2.sub (L1 := [(jFy, jYb dC dI G_26)]) [0] rfl), (by omega), (by omega), ⟨(by first | omega | rfl | assumption | fail), (by first | omega | rfl | assumption | fail), (by first | omega | rfl | assumption | fail), (by first | omega | rfl | assumption | fail), (by first | assumption | fail | omega)⟩⟩⟩ rfl rfl hl.1 rfl (lv_room (Nat.le_of_ble_eq_true rfl)) dX11_diagnostic_39 ⟨by rw [hRc]; omega, by rw [hRs]; omega⟩) hh_39.1 (fun q _ h => h) (fun q h => h) (fun u_42 t_42 H_42 locs_42 ht_42 hvm_42 hr_43 hb_42 hz_42 hk_42 hS_42 => ?_)
  obtain ⟨qc_42, qa_42, m_qa_42, G_42⟩ := u_42
  rw [ht_42] at hb_42
  simp only at hb_42
  obtain ⟨⟨hb_421, hb_422, hb_423, hb_424, hb_425, hb_426⟩, hgq_42_0, hN_42, hbE_42⟩ := hb_42
  have hh_42 : jSt (dC, dI) B base G0 G_42 EX11_diagnostic s.heap (((m_qa_26 - n_pa) / 16) + ((m_qa_42 - m_qa_26) / 16)) ((2 * (m_qa_26 - n_pa)) + (2 * (m_qa_42 - m_qa_26))) [(bo, 2, 1, .int qc_42), (bo, 2, 0, .ref qa_42), (r1, 3, 6, .ref ends_40), (r1, 3, 5, .ref starts_14), (r0, 13, 4, .ref bo), (r1, 3, 9, .ref bh)] [] [([(210, 0)], jQc dC dI (ca 6) bh 40 fq)] H_42 locs_42 := (hh_39.callG hb_421 hb_422 hb_423 hb_424 hb_425 hS_42 rfl (L1 := [(r1, 3, 6, .ref ends_40), (r1, 3, 5, .ref starts_14), (r0, 13, 4, .ref bo), (r1, 3, 9, .ref bh)]) [0, 3, 4, 5] rfl rfl (M1 := []) [] rfl rfl (I1 := [([(210, 0)], jQc dC dI (ca 6) bh 40 fq)]) [1] rfl rfl).more hb_426
  have hNn_42 : (jNk [0, 1, 2, 3, 4, 5, 6, 7, 8, 9, 10, 11, 12, 13, 14, 15, 16]) G0 G_42 := (hNn_26).tr hN_42
  have hg_44 := hb_422 _ _ hg_29
  have hg_45 := hb_422 _ _ hg_30
  have hg_46 := hb_422 _ _ hg_ends_40
  have hg_47 := hb_422 _ _ hg_31
  have hg_48 := hb_422 _ _ hg_32
  have hg_49 := hb_422 _ _ hg_33
  have hh_51 := hh_42.addIs hbE_42
  try simp only at hr_43
  obtain ⟨hr_43_0, hr_43_1, hr_43_2, hr_43_3, hr_43_4⟩ := hr_43
  have hh_52 := hh_51.wk (zc1 := (m_qa_42 - n_pa) / 16) (zs1 := 2 * (m_qa_42 - n_pa)) (by omega) (by omega)
  clear hh_51
  try clear hsz_42 htt_42 hrc_42 hrs_42
  try clear hb_424 hb_425
  refine lv_aload_n hx hb dX11_diagnostic_42 rfl (lv_at hl 0 rfl) ?_
  refine j7_read hx hb hown hK (C := RX11) (T := TX11) (N := 19) rfl hly_13_4 hlk_35 (hh_52.at 4 rfl) dX11_diagnostic_43 ?_
  refine j_ldcSw hx hb hown rstr524 dX11_diagnostic_46 ?_
  have hsz_53 := hh_52.2.2.2.2.2.1
  have htt_53 := hh_52.2.2.2.2.2.2.1
  refine W.room (fun hrc_53 hrs_53 => ?_)
  refine va_callv (A0 := jA base) (H0 := s.heap) (va_runV (As := [.ref str524]) (rest := []) ⟨hx, hb, hml, hown, hts⟩ (uX0_text l dC dI ca base B hB hAp hB2 hB196 G_42 H_42 bo str524 26 qc_42 qa_42 m_qa_42 LC LS) (cwV 1 hts (jgV (jWr_26 _ (List.mem_of_getElem? (i := 11) rfl)) (jWr_25 _ (List.mem_of_getElem? (i := 22) rfl)) (jWr_25 _ (List.mem_of_getElem? (i := 23) rfl)) (jWr_1 _ (List.mem_of_getElem? (i := 14) rfl)) (jWr_26 _ (List.mem_of_getElem? (i := 0) rfl))) rfl rfl rfl (by decide +kernel) ⟨by rw [← hR]; exact Nat.le_of_ble_eq_true rfl, by rw [← hR]; exact Nat.le_of_ble_eq_true rfl⟩) ⟨fun a U g mk q => by obtain ⟨q0, q1, q2, qK, q10, q11, q12, q13, q14⟩ := q; exact ⟨q0, q1, q2, jG.calling g mk a qK, (q10.moved (Vm.Alike.refl U.vm)), q11, q12, q13, q14⟩, hh_52.recv (C := RX0) (T := TX0) (N := 2) hB2 rfl (by decide) hg_48 hK, fun U hU hW => ⟨rfl, hU, hh_52.2.1, hG.step hW hU hh_52.1, (hstr524.moved hW.alike).kept hh_52.1.2.1, hg_48, hgq_42_0, (hh_52.2.2.1.sub (L1 := [(bo, 2, 1, .int qc_42), (bo, 2, 0, .ref qa_42)]) [0, 1] rfl), (by omega), (by omega), ⟨(by first | omega | rfl | assumption | fail), (by first | omega | rfl | assumption | fail), (by first | omega | rfl | assumption | fail), (by first | omega | rfl | assumption | fail), (by first | assumption | fail | omega), (by first | omega | rfl | assumption | fail)⟩⟩⟩ rfl rfl hl.1 rfl (lv_room (Nat.le_of_ble_eq_true rfl)) dX11_diagnostic_49 ⟨by rw [hRc]; omega, by rw [hRs]; omega⟩) hh_52.1 (fun q _ h => h) (fun q h => h) (fun u_53 t_53 H_53 locs_53 ht_53 hvm_53 hr_54 hb_53 hz_53 hk_53 hS_53 => ?_)
  obtain ⟨qc_53, qa_53, m_qa_53, G_53⟩ := u_53
  rw [ht_53] at hb_53
  simp only at hb_53
  obtain ⟨⟨hb_531, hb_532, hb_533, hb_534, hb_535, hb_536⟩, hgq_53_0, hN_53, hbO_53⟩ := hb_53
  have hy_55 := hh_52.iv 0 rfl
  have hh_53 : jSt (dC, dI) B base G0 G_53 EX11_diagnostic s.heap (((m_qa_42 - n_pa) / 16) + ((m_qa_53 - m_qa_42) / 16)) ((2 * (m_qa_42 - n_pa)) + (2 * (m_qa_53 - m_qa_42))) [(bo, 2, 1, .int qc_53), (bo, 2, 0, .ref qa_53), (r1, 3, 6, .ref ends_40), (r1, 3, 5, .ref starts_14), (r0, 13, 4, .ref bo), (r1, 3, 9, .ref bh)] [] [([(210, 0)], jQc dC dI (ca 6) bh 40 fq)] H_53 locs_53 := (hh_52.callG hb_531 hb_532 hb_533 hb_534 hb_535 hS_53 rfl (L1 := [(r1, 3, 6, .ref ends_40), (r1, 3, 5, .ref starts_14), (r0, 13, 4, .ref bo), (r1, 3, 9, .ref bh)]) [2, 3, 4, 5] rfl rfl (M1 := []) [] rfl rfl (I1 := [([(210, 0)], jQc dC dI (ca 6) bh 40 fq)]) [1] rfl rfl).more hb_536
  have hNn_53 : (jNk [0, 1, 2, 3, 4, 5, 6, 7, 8, 9, 10, 11, 12, 13, 14, 15, 16]) G0 G_53 := (hNn_42).tr hN_53
  have hg_56 := hb_532 _ _ hg_44
  have hg_57 := hb_532 _ _ hg_45
  have hg_58 := hb_532 _ _ hg_46
  have hg_59 := hb_532 _ _ hg_47
  have hg_60 := hb_532 _ _ hg_48
  have hg_61 := hb_532 _ _ hg_49
  have hyp_53 : qc_53.toInt ≤ (m_qa_53 : Nat) ∧ m_qa_53 ≤ 1048576 := by (try simp only at hr_54); omega
  have hy_63 := jYb.own hy_55 hbO_53 hb_532 hN_53 (by decide) (fun _ => ⟨_, _, _, hh_53.at 0 rfl, hh_53.at 1 rfl, hgq_53_0, hyp_53⟩)
  have hh_64 := hh_53.addI (jYb.ie hy_63)
  clear hh_53
  try simp only at hr_54
  obtain ⟨hr_54_0, hr_54_1, hr_54_2, hr_54_3, hr_54_4⟩ := hr_54
  have hh_65 := hh_64.wk (zc1 := (m_qa_53 - n_pa) / 16) (zs1 := 2 * (m_qa_53 - n_pa)) (by omega) (by omega)
  clear hh_64
  try clear hsz_53 htt_53 hrc_53 hrs_53
  try clear hb_534 hb_535
  refine lv_aload_n hx hb dX11_diagnostic_52 rfl (lv_at hl 0 rfl) ?_
  refine j7_read hx hb hown hK (C := RX11) (T := TX11) (N := 19) rfl hly_13_4 hlk_35 (hh_65.at 4 rfl) dX11_diagnostic_53 ?_
  refine lv_aload_n hx hb dX11_diagnostic_56 rfl (lv_at hl 1 rfl) ?_
  refine j7_read hx hb hown hK (C := RX1) (T := TX1) (N := 17) rfl hly_3_9 hlk_178 (hh_65.at 5 rfl) dX11_diagnostic_57 ?_
  refine lv_iload_n hx hb dX11_diagnostic_60 rfl (lv_at hl 2 rfl) ?_
  refine j7_qaldI hx hb hK2 hh_65 hB210 2 rfl (by decide) hg_61 (x := a2.toInt) (rfl) (by omega) (hh_65.iv 1 rfl) dX11_diagnostic_61 (fun o_66 ho_66 heo_66 => ?_)
  rcases ho_66 with rfl | ⟨el_67, rfl, hg_el_67⟩
  · simp only [va_rf]
    exact absurd heo_66.symm hp7
  · simp only [va_rf]
    obtain ⟨v_68, hv_68, hh_69⟩ := hh_65.pin (C := RX9) (T := TX9) (N := 9) hB11 rfl (by decide) hg_el_67 (i := 2) (by decide) rfl
    clear hh_65
    obtain ⟨fault_70, rfl⟩ := hv_68
    refine j7_read hx hb hown hK (C := RX9) (T := TX9) (N := 9) rfl hly_11_2 hlk_188 (hh_69.at 0 rfl) dX11_diagnostic_62 ?_
    have hsz_71 := hh_69.2.2.2.2.2.1
    have htt_71 := hh_69.2.2.2.2.2.2.1
    refine W.room (fun hrc_71 hrs_71 => ?_)
    refine j_callx (A0 := jA base) (H0 := s.heap) (va_runS (As := [.int fault_70]) (rest := [.ref bo]) ⟨hx, hb, hml, hown, hts⟩ (uX11_faultText l dC dI ca base B hB hAp G_53 H_53 fault_70) (va_cwS 1 hts (jgS (jWr_41 _ (List.mem_of_getElem? (i := 1) rfl)) (jWr_41 _ (List.mem_of_getElem? (i := 2) rfl)) (jWr_1 _ (List.mem_of_getElem? (i := 2) rfl)) (jWr_41 _ (List.mem_of_getElem? (i := 3) rfl))) rfl rfl rfl (by decide +kernel) ⟨by rw [← hR]; exact Nat.le_of_ble_eq_true rfl, by rw [← hR]; exact Nat.le_of_ble_eq_true rfl⟩) ⟨fun a U g mk q => by obtain ⟨q0, q1, q2, qK, q10, q11⟩ := q; exact ⟨q0, q1, q2, jG.calling g mk a qK, q10, q11⟩, fun U hU hW => ⟨rfl, hU, hh_69.2.1, hG.step hW hU hh_69.1, jP.nil, trivial⟩⟩ rfl rfl hl.1 rfl (lv_room (Nat.le_of_ble_eq_true rfl)) dX11_diagnostic_65 ⟨by rw [hRc]; show _ + 0 ≤ _; omega, by rw [hRs]; show _ + 0 ≤ _; omega⟩) hh_69.1 (fun q _ h => h) (fun q h => h) (fun r_72 u_71 t_71 H_71 locs_71 ht_71 hvm_71 hr_72 hb_71 hz_71 hk_71 hS_71 => ?_)
    rw [ht_71] at hb_71
    obtain ⟨hb_71, hbV_71⟩ := hb_71
    obtain ⟨hb_711, hb_712, hb_713, hb_714, hb_715⟩ := hb_71
    have hh_71 : jSt (dC, dI) B base G0 G_53 EX11_diagnostic s.heap ((m_qa_53 - n_pa) / 16) (2 * (m_qa_53 - n_pa)) [(el_67, 11, 2, .int fault_70), (bo, 2, 1, .int qc_53), (bo, 2, 0, .ref qa_53), (r1, 3, 6, .ref ends_40), (r1, 3, 5, .ref starts_14), (r0, 13, 4, .ref bo), (r1, 3, 9, .ref bh)] [] [(jFy, jYb dC dI G_53), ([(210, 0)], jQc dC dI (ca 6) bh 40 fq)] H_71 locs_71 := ((hh_69.call hb_711 hb_712 hb_713 hb_714 hS_71 rfl (L1 := [(el_67, 11, 2, .int fault_70), (bo, 2, 1, .int qc_53), (bo, 2, 0, .ref qa_53), (r1, 3, 6, .ref ends_40), (r1, 3, 5, .ref starts_14), (r0, 13, 4, .ref bo), (r1, 3, 9, .ref bh)]) [0, 1, 2, 3, 4, 5, 6] rfl rfl (M1 := []) [] rfl rfl (I1 := [(jFy, jYb dC dI G_53), ([(210, 0)], jQc dC dI (ca 6) bh 40 fq)]) [0, 1] rfl rfl).more hb_715)
    obtain ⟨rfl, hn_71⟩ := hr_72
    have hstr_71 : jStr base u_71.1 u_71.2 s s.heap := hbV_71.back hvm_71 hbs hh_71.1.2.1
    clear hh_69 ht_71 hvm_71 hz_71 hk_71 hS_71 hb_711 hb_712 hb_713 hb_714 hb_715
    have hsz_73 := hh_71.2.2.2.2.2.1
    have htt_73 := hh_71.2.2.2.2.2.2.1
    refine W.room (fun hrc_73 hrs_73 => ?_)
    refine va_callv (A0 := jA base) (H0 := s.heap) (va_runV (As := [.ref u_71.1]) (rest := []) ⟨hx, hb, hml, hown, hts⟩ (uX0_text l dC dI ca base B hB hAp hB2 hB196 G_53 H_71 bo u_71.1 u_71.2 qc_53 qa_53 m_qa_53 LC LS) (cwV 1 hts (jgV (jWr_26 _ (List.mem_of_getElem? (i := 11) rfl)) (jWr_25 _ (List.mem_of_getElem? (i := 22) rfl)) (jWr_25 _ (List.mem_of_getElem? (i := 23) rfl)) (jWr_1 _ (List.mem_of_getElem? (i := 14) rfl)) (jWr_26 _ (List.mem_of_getElem? (i := 0) rfl))) rfl rfl rfl (by decide +kernel) ⟨by rw [← hR]; exact Nat.le_of_ble_eq_true rfl, by rw [← hR]; exact Nat.le_of_ble_eq_true rfl⟩) ⟨fun a U g mk q => by obtain ⟨q0, q1, q2, qK, q10, q11, q12, q13, q14⟩ := q; exact ⟨q0, q1, q2, jG.calling g mk a qK, (q10.moved (Vm.Alike.refl U.vm)), q11, q12, q13, q14⟩, hh_71.recv (C := RX0) (T := TX0) (N := 2) hB2 rfl (by decide) hg_60 hK, fun U hU hW => ⟨rfl, hU, hh_71.2.1, hG.step hW hU hh_71.1, (hstr_71.moved hW.alike).kept hh_71.1.2.1, hg_60, hgq_53_0, (hh_71.2.2.1.sub (L1 := [(bo, 2, 1, .int qc_53), (bo, 2, 0, .ref qa_53)]) [1, 2] rfl), (by omega), (by omega), ⟨(by first | omega | rfl | assumption | fail), (by first | omega | rfl | assumption | fail), (by first | omega | rfl | assumption | fail), (by first | omega | rfl | assumption | fail), (by first | assumption | fail | omega), (by first | omega | rfl | assumption | fail)⟩⟩⟩ rfl rfl hl.1 rfl (lv_room (Nat.le_of_ble_eq_true rfl)) dX11_diagnostic_68 ⟨by rw [hRc]; omega, by rw [hRs]; omega⟩) hh_71.1 (fun q _ h => h) (fun q h => h) (fun u_73 t_73 H_73 locs_73 ht_73 hvm_73 hr_74 hb_73 hz_73 hk_73 hS_73 => ?_)
    obtain ⟨qc_73, qa_73, m_qa_73, G_73⟩ := u_73
    rw [ht_73] at hb_73
    simp only at hb_73
    obtain ⟨⟨hb_731, hb_732, hb_733, hb_734, hb_735, hb_736⟩, hgq_73_0, hN_73, hbO_73⟩ := hb_73
    have hy_75 := hh_71.iv 0 rfl
    have hh_73 : jSt (dC, dI) B base G0 G_73 EX11_diagnostic s.heap (((m_qa_53 - n_pa) / 16) + ((m_qa_73 - m_qa_53) / 16)) ((2 * (m_qa_53 - n_pa)) + (2 * (m_qa_73 - m_qa_53))) [(bo, 2, 1, .int qc_73), (bo, 2, 0, .ref qa_73), (el_67, 11, 2, .int fault_70), (r1, 3, 6, .ref ends_40), (r1, 3, 5, .ref starts_14), (r0, 13, 4, .ref bo), (r1, 3, 9, .ref bh)] [] [([(210, 0)], jQc dC dI (ca 6) bh 40 fq)] H_73 locs_73 := (hh_71.callG hb_731 hb_732 hb_733 hb_734 hb_735 hS_73 rfl (L1 := [(el_67, 11, 2, .int fault_70), (r1, 3, 6, .ref ends_40), (r1, 3, 5, .ref starts_14), (r0, 13, 4, .ref bo), (r1, 3, 9, .ref bh)]) [0, 3, 4, 5, 6] rfl rfl (M1 := []) [] rfl rfl (I1 := [([(210, 0)], jQc dC dI (ca 6) bh 40 fq)]) [1] rfl rfl).more hb_736
    have hNn_73 : (jNk [0, 1, 2, 3, 4, 5, 6, 7, 8, 9, 10, 11, 12, 13, 14, 15, 16]) G0 G_73 := (hNn_53).tr hN_73
    have hg_76 := hb_732 _ _ hg_56
    have hg_77 := hb_732 _ _ hg_57
    have hg_78 := hb_732 _ _ hg_58
    have hg_79 := hb_732 _ _ hg_59
    have hg_80 := hb_732 _ _ hg_60
    have hg_81 := hb_732 _ _ hg_61
    have hyp_73 : qc_73.toInt ≤ (m_qa_73 : Nat) ∧ m_qa_73 ≤ 1048576 := by (try simp only at hr_74); omega
    have hy_83 := jYb.own hy_75 hbO_73 hb_732 hN_73 (by decide) (fun _ => ⟨_, _, _, hh_73.at 0 rfl, hh_73.at 1 rfl, hgq_73_0, hyp_73⟩)
    have hh_84 := hh_73.addI (jYb.ie hy_83)
    clear hh_73
    try simp only at hr_74
    obtain ⟨hr_74_0, hr_74_1, hr_74_2, hr_74_3, hr_74_4⟩ := hr_74
    have hh_85 := hh_84.wk (zc1 := (m_qa_73 - n_pa) / 16) (zs1 := 2 * (m_qa_73 - n_pa)) (by omega) (by omega)
    clear hh_84
    try clear hsz_73 htt_73 hrc_73 hrs_73
    try clear hb_734 hb_735
    refine lv_aload_n hx hb dX11_diagnostic_71 rfl (lv_at hl 0 rfl) ?_
    refine j7_read hx hb hown hK (C := RX11) (T := TX11) (N := 19) rfl hly_13_4 hlk_35 (hh_85.at 5 rfl) dX11_diagnostic_72 ?_
    refine j_ldcSw hx hb hown rstr529 dX11_diagnostic_75 ?_
    have hsz_86 := hh_85.2.2.2.2.2.1
    have htt_86 := hh_85.2.2.2.2.2.2.1
    refine W.room (fun hrc_86 hrs_86 => ?_)
    refine va_callv (A0 := jA base) (H0 := s.heap) (va_runV (As := [.ref str529]) (rest := []) ⟨hx, hb, hml, hown, hts⟩ (uX0_text l dC dI ca base B hB hAp hB2 hB196 G_73 H_73 bo str529 2 qc_73 qa_73 m_qa_73 LC LS) (cwV 1 hts (jgV (jWr_26 _ (List.mem_of_getElem? (i := 11) rfl)) (jWr_25 _ (List.mem_of_getElem? (i := 22) rfl)) (jWr_25 _ (List.mem_of_getElem? (i := 23) rfl)) (jWr_1 _ (List.mem_of_getElem? (i := 14) rfl)) (jWr_26 _ (List.mem_of_getElem? (i := 0) rfl))) rfl rfl rfl (by decide +kernel) ⟨by rw [← hR]; exact Nat.le_of_ble_eq_true rfl, by rw [← hR]; exact Nat.le_of_ble_eq_true rfl⟩) ⟨fun a U g mk q => by obtain ⟨q0, q1, q2, qK, q10, q11, q12, q13, q14⟩ := q; exact ⟨q0, q1, q2, jG.calling g mk a qK, (q10.moved (Vm.Alike.refl U.vm)), q11, q12, q13, q14⟩, hh_85.recv (C := RX0) (T := TX0) (N := 2) hB2 rfl (by decide) hg_80 hK, fun U hU hW => ⟨rfl, hU, hh_85.2.1, hG.step hW hU hh_85.1, (hstr529.moved hW.alike).kept hh_85.1.2.1, hg_80, hgq_73_0, (hh_85.2.2.1.sub (L1 := [(bo, 2, 1, .int qc_73), (bo, 2, 0, .ref qa_73)]) [0, 1] rfl), (by omega), (by omega), ⟨(by first | omega | rfl | assumption | fail), (by first | omega | rfl | assumption | fail), (by first | omega | rfl | assumption | fail), (by first | omega | rfl | assumption | fail), (by first | assumption | fail | omega), (by first | omega | rfl | assumption | fail)⟩⟩⟩ rfl rfl hl.1 rfl (lv_room (Nat.le_of_ble_eq_true rfl)) dX11_diagnostic_78 ⟨by rw [hRc]; omega, by rw [hRs]; omega⟩) hh_85.1 (fun q _ h => h) (fun q h => h) (fun u_86 t_86 H_86 locs_86 ht_86 hvm_86 hr_87 hb_86 hz_86 hk_86 hS_86 => ?_)
    obtain ⟨qc_86, qa_86, m_qa_86, G_86⟩ := u_86
    rw [ht_86] at hb_86
    simp only at hb_86
    obtain ⟨⟨hb_861, hb_862, hb_863, hb_864, hb_865, hb_866⟩, hgq_86_0, hN_86, hbO_86⟩ := hb_86
    have hy_88 := hh_85.iv 0 rfl
    have hh_86 : jSt (dC, dI) B base G0 G_86 EX11_diagnostic s.heap (((m_qa_73 - n_pa) / 16) + ((m_qa_86 - m_qa_73) / 16)) ((2 * (m_qa_73 - n_pa)) + (2 * (m_qa_86 - m_qa_73))) [(bo, 2, 1, .int qc_86), (bo, 2, 0, .ref qa_86), (el_67, 11, 2, .int fault_70), (r1, 3, 6, .ref ends_40), (r1, 3, 5, .ref starts_14), (r0, 13, 4, .ref bo), (r1, 3, 9, .ref bh)] [] [([(210, 0)], jQc dC dI (ca 6) bh 40 fq)] H_86 locs_86 := (hh_85.callG hb_861 hb_862 hb_863 hb_864 hb_865 hS_86 rfl (L1 := [(el_67, 11, 2, .int fault_70), (r1, 3, 6, .ref ends_40), (r1, 3, 5, .ref starts_14), (r0, 13, 4, .ref bo), (r1, 3, 9, .ref bh)]) [2, 3, 4, 5, 6] rfl rfl (M1 := []) [] rfl rfl (I1 := [([(210, 0)], jQc dC dI (ca 6) bh 40 fq)]) [1] rfl rfl).more hb_866
    have hNn_86 : (jNk [0, 1, 2, 3, 4, 5, 6, 7, 8, 9, 10, 11, 12, 13, 14, 15, 16]) G0 G_86 := (hNn_73).tr hN_86
    have hg_89 := hb_862 _ _ hg_76
    have hg_90 := hb_862 _ _ hg_77
    have hg_91 := hb_862 _ _ hg_78
    have hg_92 := hb_862 _ _ hg_79
    have hg_93 := hb_862 _ _ hg_80
    have hg_94 := hb_862 _ _ hg_81
    have hyp_86 : qc_86.toInt ≤ (m_qa_86 : Nat) ∧ m_qa_86 ≤ 1048576 := by (try simp only at hr_87); omega
    have hy_96 := jYb.own hy_88 hbO_86 hb_862 hN_86 (by decide) (fun _ => ⟨_, _, _, hh_86.at 0 rfl, hh_86.at 1 rfl, hgq_86_0, hyp_86⟩)
    have hh_97 := hh_86.addI (jYb.ie hy_96)
    clear hh_86
    try simp only at hr_87
    obtain ⟨hr_87_0, hr_87_1, hr_87_2, hr_87_3, hr_87_4⟩ := hr_87
    have hh_98 := hh_97.wk (zc1 := (m_qa_86 - n_pa) / 16) (zs1 := 2 * (m_qa_86 - n_pa)) (by omega) (by omega)
    clear hh_97
    try clear hsz_86 htt_86 hrc_86 hrs_86
    try clear hb_864 hb_865
    have hsz_99 := hh_98.2.2.2.2.2.1
    have htt_99 := hh_98.2.2.2.2.2.2.1
    refine W.room (fun hrc_99 hrs_99 => ?_)
    refine W.widen (k := LC - s.heap.size) (n := LS - jTot s.heap) (by omega) (by omega) ?_
    rw [hQ]
    exact W.vret hx hb hr (fun t ht hW => ⟨⟨(qc_86, qa_86, m_qa_86, G_86), rfl, by (try dsimp only); exact ⟨(by first | omega | rfl | assumption | fail), (by first | omega | rfl | assumption | fail), (by first | omega | rfl | assumption | fail), (by first | omega | rfl | assumption | fail), (by first | assumption | fail | omega)⟩, ⟨hh_98.ra (by first | omega | (simp only; omega)) (by first | omega | (simp only; omega)) (M1 := [(bo, 2, 1, .int qc_86), (bo, 2, 0, .ref qa_86)]) [0, 1] rfl ht, hgq_86_0, hNn_86, by rw [ht]; exact hh_98.2.2.2.2.2.2.2.2.sub (L1 := [(jFy, jYb dC dI G_86)]) [0] rfl⟩⟩, by rw [ht]; try exact hh_98.1.1, fun q h9 hq => by rw [ht]; try exact hh_98.1.2.1 q h9 hq⟩) hh_98.1.2.2 dX11_diagnostic_81
