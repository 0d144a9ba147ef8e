theorem dX11_beginAnswer_0 : decode cX11_beginAnswer 0 = .ok (.aload_n 0, 1) := by decide +kernel
theorem dX11_beginAnswer_1 : decode cX11_beginAnswer 1 = .ok (.getfield 35, 3) := by decide +kernel
theorem dX11_beginAnswer_4 : decode cX11_beginAnswer 4 = .ok (.iconst 0, 1) := by decide +kernel
theorem dX11_beginAnswer_5 : decode cX11_beginAnswer 5 = .ok (.putfield 92, 3) := by decide +kernel
theorem dX11_beginAnswer_8 : decode cX11_beginAnswer 8 = .ok (.aload_n 0, 1) := by decide +kernel
theorem dX11_beginAnswer_9 : decode cX11_beginAnswer 9 = .ok (.getfield 35, 3) := by decide +kernel
theorem dX11_beginAnswer_12 : decode cX11_beginAnswer 12 = .ok (.ldc_w 491, 3) := by decide +kernel
theorem dX11_beginAnswer_15 : decode cX11_beginAnswer 15 = .ok (.invokevirtual 297, 3) := by decide +kernel
theorem dX11_beginAnswer_18 : decode cX11_beginAnswer 18 = .ok (.aload_n 1, 1) := by decide +kernel
theorem dX11_beginAnswer_19 : decode cX11_beginAnswer 19 = .ok (.getfield 114, 3) := by decide +kernel
theorem dX11_beginAnswer_22 : decode cX11_beginAnswer 22 = .ok (.ifnonnull 16, 3) := by decide +kernel
theorem dX11_beginAnswer_25 : decode cX11_beginAnswer 25 = .ok (.aload_n 0, 1) := by decide +kernel
theorem dX11_beginAnswer_26 : decode cX11_beginAnswer 26 = .ok (.getfield 35, 3) := by decide +kernel
theorem dX11_beginAnswer_29 : decode cX11_beginAnswer 29 = .ok (.ldc_w 493, 3) := by decide +kernel
theorem dX11_beginAnswer_32 : decode cX11_beginAnswer 32 = .ok (.invokevirtual 297, 3) := by decide +kernel
theorem dX11_beginAnswer_35 : decode cX11_beginAnswer 35 = .ok (.goto 14, 3) := by decide +kernel
theorem dX11_beginAnswer_38 : decode cX11_beginAnswer 38 = .ok (.aload_n 0, 1) := by decide +kernel
theorem dX11_beginAnswer_39 : decode cX11_beginAnswer 39 = .ok (.getfield 35, 3) := by decide +kernel
theorem dX11_beginAnswer_42 : decode cX11_beginAnswer 42 = .ok (.aload_n 1, 1) := by decide +kernel
theorem dX11_beginAnswer_43 : decode cX11_beginAnswer 43 = .ok (.getfield 114, 3) := by decide +kernel
theorem dX11_beginAnswer_46 : decode cX11_beginAnswer 46 = .ok (.invokevirtual 495, 3) := by decide +kernel
theorem dX11_beginAnswer_49 : decode cX11_beginAnswer 49 = .ok (.aload_n 0, 1) := by decide +kernel
theorem dX11_beginAnswer_50 : decode cX11_beginAnswer 50 = .ok (.getfield 35, 3) := by decide +kernel
theorem dX11_beginAnswer_53 : decode cX11_beginAnswer 53 = .ok (.aload_n 2, 1) := by decide +kernel
theorem dX11_beginAnswer_54 : decode cX11_beginAnswer 54 = .ok (.invokevirtual 297, 3) := by decide +kernel
theorem dX11_beginAnswer_57 : decode cX11_beginAnswer 57 = .ok (.return_, 1) := by decide +kernel
theorem dX11_diagnostic_0 : decode cX11_diagnostic 0 = .ok (.aload_n 0, 1) := by decide +kernel
theorem dX11_diagnostic_1 : decode cX11_diagnostic 1 = .ok (.getfield 35, 3) := by decide +kernel
theorem dX11_diagnostic_4 : decode cX11_diagnostic 4 = .ok (.ldc_w 518, 3) := by decide +kernel
theorem dX11_diagnostic_7 : decode cX11_diagnostic 7 = .ok (.invokevirtual 297, 3) := by decide +kernel
theorem dX11_diagnostic_10 : decode cX11_diagnostic 10 = .ok (.aload_n 0, 1) := by decide +kernel
theorem dX11_diagnostic_11 : decode cX11_diagnostic 11 = .ok (.aload_n 1, 1) := by decide +kernel
theorem dX11_diagnostic_12 : decode cX11_diagnostic 12 = .ok (.aload_n 1, 1) := by decide +kernel
theorem dX11_diagnostic_13 : decode cX11_diagnostic 13 = .ok (.getfield 182, 3) := by decide +kernel
theorem dX11_diagnostic_16 : decode cX11_diagnostic 16 = .ok (.iload_n 2, 1) := by decide +kernel
theorem dX11_diagnostic_17 : decode cX11_diagnostic 17 = .ok (.iaload, 1) := by decide +kernel
theorem dX11_diagnostic_18 : decode cX11_diagnostic 18 = .ok (.invokevirtual 520, 3) := by decide +kernel
theorem dX11_diagnostic_21 : decode cX11_diagnostic 21 = .ok (.aload_n 0, 1) := by decide +kernel
theorem dX11_diagnostic_22 : decode cX11_diagnostic 22 = .ok (.getfield 35, 3) := by decide +kernel
theorem dX11_diagnostic_25 : decode cX11_diagnostic 25 = .ok (.ldc_w 522, 3) := by decide +kernel
theorem dX11_diagnostic_28 : decode cX11_diagnostic 28 = .ok (.invokevirtual 297, 3) := by decide +kernel
theorem dX11_diagnostic_31 : decode cX11_diagnostic 31 = .ok (.aload_n 0, 1) := by decide +kernel
theorem dX11_diagnostic_32 : decode cX11_diagnostic 32 = .ok (.aload_n 1, 1) := by decide +kernel
theorem dX11_diagnostic_33 : decode cX11_diagnostic 33 = .ok (.aload_n 1, 1) := by decide +kernel
theorem dX11_diagnostic_34 : decode cX11_diagnostic 34 = .ok (.getfield 185, 3) := by decide +kernel
theorem dX11_diagnostic_37 : decode cX11_diagnostic 37 = .ok (.iload_n 2, 1) := by decide +kernel
theorem dX11_diagnostic_38 : decode cX11_diagnostic 38 = .ok (.iaload, 1) := by decide +kernel
theorem dX11_diagnostic_39 : decode cX11_diagnostic 39 = .ok (.invokevirtual 520, 3) := by decide +kernel
theorem dX11_diagnostic_42 : decode cX11_diagnostic 42 = .ok (.aload_n 0, 1) := by decide +kernel
theorem dX11_diagnostic_43 : decode cX11_diagnostic 43 = .ok (.getfield 35, 3) := by decide +kernel
theorem dX11_diagnostic_46 : decode cX11_diagnostic 46 = .ok (.ldc_w 524, 3) := by decide +kernel
theorem dX11_diagnostic_49 : decode cX11_diagnostic 49 = .ok (.invokevirtual 297, 3) := by decide +kernel
theorem dX11_diagnostic_52 : decode cX11_diagnostic 52 = .ok (.aload_n 0, 1) := by decide +kernel
theorem dX11_diagnostic_53 : decode cX11_diagnostic 53 = .ok (.getfield 35, 3) := by decide +kernel
theorem dX11_diagnostic_56 : decode cX11_diagnostic 56 = .ok (.aload_n 1, 1) := by decide +kernel
theorem dX11_diagnostic_57 : decode cX11_diagnostic 57 = .ok (.getfield 178, 3) := by decide +kernel
theorem dX11_diagnostic_60 : decode cX11_diagnostic 60 = .ok (.iload_n 2, 1) := by decide +kernel
theorem dX11_diagnostic_61 : decode cX11_diagnostic 61 = .ok (.aaload, 1) := by decide +kernel
theorem dX11_diagnostic_62 : decode cX11_diagnostic 62 = .ok (.getfield 188, 3) := by decide +kernel
theorem dX11_diagnostic_65 : decode cX11_diagnostic 65 = .ok (.invokestatic 526, 3) := by decide +kernel
theorem dX11_diagnostic_68 : decode cX11_diagnostic 68 = .ok (.invokevirtual 297, 3) := by decide +kernel
theorem dX11_diagnostic_71 : decode cX11_diagnostic 71 = .ok (.aload_n 0, 1) := by decide +kernel
theorem dX11_diagnostic_72 : decode cX11_diagnostic 72 = .ok (.getfield 35, 3) := by decide +kernel
theorem dX11_diagnostic_75 : decode cX11_diagnostic 75 = .ok (.ldc_w 529, 3) := by decide +kernel
theorem dX11_diagnostic_78 : decode cX11_diagnostic 78 = .ok (.invokevirtual 297, 3) := by decide +kernel
theorem dX11_diagnostic_81 : decode cX11_diagnostic 81 = .ok (.return_, 1) := by decide +kernel
theorem dX11_position_0 : decode cX11_position 0 = .ok (.aload_n 1, 1) := by decide +kernel
theorem dX11_position_1 : decode cX11_position 1 = .ok (.iload_n 2, 1) := by decide +kernel
theorem dX11_position_2 : decode cX11_position 2 = .ok (.invokevirtual 531, 3) := by decide +kernel
theorem dX11_position_5 : decode cX11_position 5 = .ok (.aload_n 0, 1) := by decide +kernel
theorem dX11_position_6 : decode cX11_position 6 = .ok (.getfield 35, 3) := by decide +kernel
theorem dX11_position_9 : decode cX11_position 9 = .ok (.ldc_w 534, 3) := by decide +kernel
theorem dX11_position_12 : decode cX11_position 12 = .ok (.invokevirtual 297, 3) := by decide +kernel
theorem dX11_position_15 : decode cX11_position 15 = .ok (.aload_n 0, 1) := by decide +kernel
theorem dX11_position_16 : decode cX11_position 16 = .ok (.getfield 35, 3) := by decide +kernel
theorem dX11_position_19 : decode cX11_position 19 = .ok (.aload_n 1, 1) := by decide +kernel
theorem dX11_position_20 : decode cX11_position 20 = .ok (.getfield 536, 3) := by decide +kernel
theorem dX11_position_23 : decode cX11_position 23 = .ok (.invokevirtual 466, 3) := by decide +kernel
theorem dX11_position_26 : decode cX11_position 26 = .ok (.aload_n 0, 1) := by decide +kernel
theorem dX11_position_27 : decode cX11_position 27 = .ok (.getfield 35, 3) := by decide +kernel
theorem dX11_position_30 : decode cX11_position 30 = .ok (.ldc_w 538, 3) := by decide +kernel
theorem dX11_position_33 : decode cX11_position 33 = .ok (.invokevirtual 297, 3) := by decide +kernel
theorem dX11_position_36 : decode cX11_position 36 = .ok (.aload_n 0, 1) := by decide +kernel
theorem dX11_position_37 : decode cX11_position 37 = .ok (.getfield 35, 3) := by decide +kernel
theorem dX11_position_40 : decode cX11_position 40 = .ok (.iload_n 2, 1) := by decide +kernel
theorem dX11_position_41 : decode cX11_position 41 = .ok (.aload_n 1, 1) := by decide +kernel
theorem dX11_position_42 : decode cX11_position 42 = .ok (.getfield 540, 3) := by decide +kernel
theorem dX11_position_45 : decode cX11_position 45 = .ok (.isub, 1) := by decide +kernel
theorem dX11_position_46 : decode cX11_position 46 = .ok (.invokevirtual 466, 3) := by decide +kernel
theorem dX11_position_49 : decode cX11_position 49 = .ok (.aload_n 0, 1) := by decide +kernel
theorem dX11_position_50 : decode cX11_position 50 = .ok (.getfield 35, 3) := by decide +kernel
theorem dX11_position_53 : decode cX11_position 53 = .ok (.bipush 125, 2) := by decide +kernel
theorem dX11_position_55 : decode cX11_position 55 = .ok (.invokevirtual 246, 3) := by decide +kernel
theorem dX11_position_58 : decode cX11_position 58 = .ok (.return_, 1) := by decide +kernel
def EX11_beginAnswer : List (Nat × Nat) := [(2, 0), (2, 1), (196, 0)]
def EX11_position : List (Nat × Nat) := [(2, 0), (2, 1), (3, 14), (3, 15), (3, 16), (196, 0)]
def EX11_diagnostic : List (Nat × Nat) := [(2, 0), (2, 1), (3, 14), (3, 15), (3, 16), (196, 0)]
set_option maxHeartbeats 4000000 in
set_option maxRecDepth 20000 in
theorem uX11_beginAnswer (l : Launch) (dC : Nat → ClassId) (dI : Nat → Nat → Nat) (ca : Nat → ClassId) (base : Nat) (B : jF) (hB : jBok B) (hAp : jAp (dC, dI)) (hB2 : ∀ n G a H, B 2 n G a H ↔ jOb (dC, dI) 2 2 (F2 n G) a H) (hB10 : ∀ n G a H, B 10 n G a H ↔ jOb (dC, dI) 10 5 (F10 n G) a H) (hB13 : ∀ n G a H, B 13 n G a H ↔ jOb (dC, dI) 13 19 (F13 n G) a H) (hB196 : ∀ n G a H, B 196 n G a H ↔ jAr (dC, dI) (ca 0) (fun j z => jBf j z) n a H) (G0 : jT) (H0 : Heap) (r0 : Nat) (r1 : Nat) (r2 : Nat) (n2 : Nat) (bo : Nat) (pc : Int32) (pa : Nat) (n_pa : Nat) (LC LS : Nat) : Met l yX11_beginAnswer (jw yX11_beginAnswer cX11_beginAnswer 3 none) ({ frames := 5, cells := LC - H0.size, slots := LS - jTot H0, locals := 163 }) (va_Pc [.ref r0, .ref r1, .ref r2] (fun U => U.heap = H0 ∧ jX B base G0 [] H0 ∧ jG dC dI ca base U ∧ jStr base r2 n2 U H0 ∧ G0 r1 = some (10, 0) ∧ G0 r0 = some (13, 0) ∧ G0 bo = some (2, 0) ∧ G0 pa = some (196, n_pa) ∧ jP (dC, dI) G0 H0 [(r0, 13, 4, .ref bo), (bo, 2, 1, .int pc), (bo, 2, 0, .ref pa)] ∧ jIs (dC, dI) G0 H0 [(jFy, jYb dC dI G0)] ∧ H0.size + (1048576 - n_pa) / 16 + 1 ≤ LC ∧ jTot H0 + 2 * (1048576 - n_pa) ≤ LS ∧ 0 ≤ pc.toInt ∧ pc.toInt ≤ n_pa ∧ 16 ≤ n_pa ∧ n_pa ≤ 1048576 ∧ jPw n_pa ∧ n2 < 2147483648)) (va_Qv (S := Int32 × Nat × Nat × jT) (fun u => 0 ≤ u.1.toInt ∧ u.1.toInt ≤ u.2.2.1 ∧ n_pa ≤ u.2.2.1 ∧ u.2.2.1 ≤ 1048576 ∧ jPw u.2.2.1) (fun u t => jRa (dC, dI) B base G0 u.2.2.2 EX11_beginAnswer H0 ((u.2.2.1 - n_pa) / 16) (2 * (u.2.2.1 - n_pa)) [(bo, 2, 1, .int u.1), (bo, 2, 0, .ref u.2.1)] t.heap ∧ u.2.2.2 u.2.1 = some (196, u.2.2.1) ∧ (jNk [0, 1, 2, 3, 4, 5, 6, 7, 8, 9, 10, 11, 12, 13, 14, 15, 16]) G0 u.2.2.2 ∧ jIs (dC, dI) u.2.2.2 t.heap [(jFy, jYb dC dI u.2.2.2)]) (jA base)) (LC - H0.size) (LS - jTot H0) (jA base) := by
  refine Met.ofW (cc := cX11_beginAnswer) (maxL := 3) (ret := none) (by decide) rfl ?_
  intro p e s m args below meth c s₁ Bd hml hv
  obtain ⟨rfl, hH0, hX, hG, hstr_r2, hg_r1, hg_r0, hg_bo, hg_pa, hP0, hI0, hLC0, hLS0, hp0, hp1, hp2, hp3, hp4, hp5⟩ := hv
  have hK := hG.1
  have hx := Bd.exec
  have hb := Bd.bytes
  have hr := Bd.returns
  have hts := atoms_spec (ws := (jw yX11_beginAnswer cX11_beginAnswer 3 none)) Bd.pre
  have htw : ∀ w ∈ jWl, w.before _ s = true := fun w h => hts w (List.mem_cons_of_mem _ h)
  have hown : s.vm.findClass RX11 = some m.cls := findClass_of_methodNamed Bd.named
  have hlocks := Bd.notSynchronized
  obtain ⟨Q, hQ⟩ : ∃ Q, Q = MQ below (va_Qv (S := Int32 × Nat × Nat × jT) (fun u => 0 ≤ u.1.toInt ∧ u.1.toInt ≤ u.2.2.1 ∧ n_pa ≤ u.2.2.1 ∧ u.2.2.1 ≤ 1048576 ∧ jPw u.2.2.1) (fun u t => jRa (dC, dI) B base G0 u.2.2.2 EX11_beginAnswer H0 ((u.2.2.1 - n_pa) / 16) (2 * (u.2.2.1 - n_pa)) [(bo, 2, 1, .int u.1), (bo, 2, 0, .ref u.2.1)] t.heap ∧ u.2.2.2 u.2.1 = some (196, u.2.2.1) ∧ (jNk [0, 1, 2, 3, 4, 5, 6, 7, 8, 9, 10, 11, 12, 13, 14, 15, 16]) G0 u.2.2.2 ∧ jIs (dC, dI) u.2.2.2 t.heap [(jFy, jYb dC dI u.2.2.2)]) (jA base)) ([.ref r0, .ref r1, .ref r2] : List Value).toArray s (LC - H0.size) (LS - jTot H0) (jA base) := ⟨_, rfl⟩
  rw [← hQ]
  have hl := lv_entry ([.ref r0, .ref r1, .ref r2]) (n := 3) (Nat.le_of_ble_eq_true rfl)
  rw [lg_entry_eq]
  generalize (lg_sl ([.ref r0, .ref r1, .ref r2]) ++ List.replicate (3 - (lg_sl ([.ref r0, .ref r1, .ref r2])).length) Slot.unset).toArray = ls at hl ⊢
  have hl : lv_has ls 3 [(0, .ref r0), (1, .ref r1), (2, .ref r2)] := hl
  generalize hR : (headSpec (jw yX11_beginAnswer cX11_beginAnswer 3 none) ({ frames := 5, cells := LC - H0.size, slots := LS - jTot H0, locals := 163 })).room = R
  subst hH0
  have hh : jSt (dC, dI) B base G0 G0 EX11_beginAnswer s.heap 0 0 [(r0, 13, 4, .ref bo), (bo, 2, 1, .int pc), (bo, 2, 0, .ref pa)] [] [(jFy, jYb dC dI G0)] s.heap [] := jSt.start hX hP0 jMc.nil hI0
  clear hX hP0
  have hk0 : (0 : Int32).toInt = 0 := by decide
  have hk1 : (1 : Int32).toInt = 1 := by decide
  have hly_2_1 := htw (u_lay RX0 TX0 1) (jWc_wsX00 _ (u_in_lay (by decide)))
  have hly_10_0 := htw (u_lay RX8 TX8 0) (jWc_wsX80 _ (u_in_lay (by decide)))
  have hly_13_4 := htw (u_lay RX11 TX11 4) (jWc_wsX110 _ (u_in_lay (by decide)))
  have hlk_35 := (htw (.fieldLink RX11 35 "ProofServer" "body" "LProofServer$Bytes;") (jWr_2 _ (List.mem_of_getElem? (i := 1) rfl)))
  have hlk_92 := (htw (.fieldLink RX11 92 "ProofServer$Bytes" "count" "I") (jWr_15 _ (List.mem_of_getElem? (i := 18) rfl)))
  obtain ⟨str491, rstr491, hstr4910⟩ := hG.str (o := RX11) (k := 491) (tx := "{\"jsonrpc\":\"2.0\",\"id\":") (List.mem_of_getElem? (i := 826) (by decide +kernel))
  have hstr491 : jStr base str491 22 s s.heap := hstr4910
  have hlk_114 := (htw (.fieldLink RX11 114 "ProofServer$Request" "id" "LProofServer$Bytes;") (jWr_17 _ (List.mem_of_getElem? (i := 9) rfl)))
  obtain ⟨str493, rstr493, hstr4930⟩ := hG.str (o := RX11) (k := 493) (tx := "null") (List.mem_of_getElem? (i := 828) (by decide +kernel))
  have hstr493 : jStr base str493 4 s s.heap := hstr4930
  have hbs : base ≤ s.heap.size := Nat.le_of_lt (Nat.lt_of_le_of_lt (hh.ab hg_r0).1 (hh.ab hg_r0).2)
  have hRc : R.cells = LC - s.heap.size := by rw [← hR]; rfl
  have hRs : R.slots = LS - jTot s.heap := by rw [← hR]; rfl
  refine lv_aload_n hx hb dX11_beginAnswer_0 rfl (lv_at hl 0 rfl) ?_
  refine j7_read hx hb hown hK (C := RX11) (T := TX11) (N := 19) rfl hly_13_4 hlk_35 (hh.at 0 rfl) dX11_beginAnswer_1 ?_
  refine lv_iconst (v := 0) hx hb dX11_beginAnswer_4 (by decide) ?_
  have hd_2 := hh.iv 0 rfl
  have hh_3 := hh.sub (L1 := [(r0, 13, 4, .ref bo), (bo, 2, 1, .int pc), (bo, 2, 0, .ref pa)]) [0, 1, 2] rfl (M1 := []) [] rfl (I1 := []) [] rfl
  clear hh
  refine j7_putX hx hb hown hK hh_3 hB hAp hB2 (C := RX0) (T := TX0) (N := 2) rfl (by decide) hg_bo (i := 1) (by decide) hly_2_1 rfl hlk_92 rfl (ty := .int) (v := .int 0) (by decide +kernel) rfl rfl (⟨_, rfl, by omega, by omega, by omega⟩) rfl (L1 := [(r0, 13, 4, .ref bo), (bo, 2, 0, .ref pa)]) [0, 2] rfl rfl rfl dX11_beginAnswer_5 (fun H_1 locs_1 hr_1 hh_1 => ?_)
  clear hh_3
  have hd_2n := jYb.put hd_2 hr_1 hg_bo (fun h9 => ⟨_, _, _, hh_1.at 0 rfl, hh_1.at 2 rfl, hg_pa, by omega⟩)
  have hh_4 := hh_1.addI (jYb.ie hd_2n)
  clear hh_1
  clear hd_2 hd_2n hr_1
  refine lv_aload_n hx hb dX11_beginAnswer_8 rfl (lv_at hl 0 rfl) ?_
  refine j7_read hx hb hown hK (C := RX11) (T := TX11) (N := 19) rfl hly_13_4 hlk_35 (hh_4.at 1 rfl) dX11_beginAnswer_9 ?_
  refine j_ldcSw hx hb hown rstr491 dX11_beginAnswer_12 ?_
  have hsz_5 := hh_4.2.2.2.2.2.1
  have htt_5 := hh_4.2.2.2.2.2.2.1
  refine W.room (fun hrc_5 hrs_5 => ?_)
  refine va_callv (A0 := jA base) (H0 := s.heap) (va_runV (As := [.ref str491]) (rest := []) ⟨hx, hb, hml, hown, hts⟩ (uX0_text l dC dI ca base B hB hAp hB2 hB196 G0 H_1 bo str491 22 0 pa n_pa LC LS) (cwV 1 hts (jgV (jWr_26 _ (List.mem_of_getElem? (i := 11) rfl)) (jWr_25 _ (List.mem_of_getElem? (i := 22) rfl)) (jWr_25 _ (List.mem_of_getElem? (i := 23) rfl)) (jWr_1 _ (List.mem_of_getElem? (i := 14) rfl)) (jWr_26 _ (List.mem_of_getElem? (i := 0) rfl))) rfl rfl rfl (by decide +kernel) ⟨by rw [← hR]; exact Nat.le_of_ble_eq_true rfl, by rw [← hR]; exact Nat.le_of_ble_eq_true rfl⟩) ⟨fun a U g mk q => by obtain ⟨q0, q1, q2, qK, q10, q11, q12, q13, q14⟩ := q; exact ⟨q0, q1, q2, jG.calling g mk a qK, (q10.moved (Vm.Alike.refl U.vm)), q11, q12, q13, q14⟩, hh_4.recv (C := RX0) (T := TX0) (N := 2) hB2 rfl (by decide) hg_bo hK, fun U hU hW => ⟨rfl, hU, hh_4.2.1, hG.step hW hU hh_4.1, (hstr491.moved hW.alike).kept hh_4.1.2.1, hg_bo, hg_pa, (hh_4.2.2.1.sub (L1 := [(bo, 2, 1, .int 0), (bo, 2, 0, .ref pa)]) [0, 2] rfl), (by omega), (by omega), by first | omega | (refine ⟨?_, ?_, ?_, ?_, ?_, ?_⟩ <;> (first | omega | rfl | assumption | decide | exact Or.inl rfl | exact Or.inr rfl | (simp only; omega)))⟩⟩ rfl rfl hl.1 rfl (lv_room (Nat.le_of_ble_eq_true rfl)) dX11_beginAnswer_15 ⟨by rw [hRc]; omega, by rw [hRs]; omega⟩) hh_4.1 (fun q _ h => h) (fun q h => h) (fun u_5 t_5 H_5 locs_5 ht_5 hvm_5 hr_6 hb_5 hz_5 hk_5 hS_5 => ?_)
  obtain ⟨qc_5, qa_5, m_qa_5, G_5⟩ := u_5
  rw [ht_5] at hb_5
  simp only at hb_5
  obtain ⟨⟨hb_51, hb_52, hb_53, hb_54, hb_55, hb_56⟩, hgq_5_0, hN_5, hbO_5⟩ := hb_5
  have hy_7 := hh_4.iv 0 rfl
  have hh_5 : jSt (dC, dI) B base G0 G_5 EX11_beginAnswer s.heap (0 + ((m_qa_5 - n_pa) / 16)) (0 + (2 * (m_qa_5 - n_pa))) [(bo, 2, 1, .int qc_5), (bo, 2, 0, .ref qa_5), (r0, 13, 4, .ref bo)] [] [] H_5 locs_5 := (hh_4.callG hb_51 hb_52 hb_53 hb_54 hb_55 hS_5 rfl (L1 := [(r0, 13, 4, .ref bo)]) [1] rfl rfl (M1 := []) [] rfl rfl (I1 := []) [] rfl rfl).more hb_56
  have hNn_5 : (jNk [0, 1, 2, 3, 4, 5, 6, 7, 8, 9, 10, 11, 12, 13, 14, 15, 16]) G0 G_5 := (jNk.rf).tr hN_5
  have hg_8 := hb_52 _ _ hg_r0
  have hg_9 := hb_52 _ _ hg_r1
  have hg_10 := hb_52 _ _ hg_bo
  have hyp_5 : qc_5.toInt ≤ (m_qa_5 : Nat) ∧ m_qa_5 ≤ 1048576 := by (try simp only at hr_6); omega
  have hy_11 := jYb.own hy_7 hbO_5 hb_52 hN_5 (by decide) (fun _ => ⟨_, _, _, hh_5.at 0 rfl, hh_5.at 1 rfl, hgq_5_0, hyp_5⟩)
  have hh_12 := hh_5.addI (jYb.ie hy_11)
  clear hh_5
  try simp only at hr_6
  obtain ⟨hr_6_0, hr_6_1, hr_6_2, hr_6_3, hr_6_4⟩ := hr_6
  refine lv_aload_n hx hb dX11_beginAnswer_18 rfl (lv_at hl 1 rfl) ?_
  obtain ⟨v_13, hv_13, hh_14⟩ := hh_12.pin (C := RX8) (T := TX8) (N := 5) hB10 rfl (by decide) hg_9 (i := 0) (by decide) rfl
  clear hh_12
  rcases hv_13 with rfl | ⟨id_15, rfl, hg_id_15⟩
  · refine j7_read hx hb hown hK (C := RX8) (T := TX8) (N := 5) rfl hly_10_0 hlk_114 (hh_14.at 0 rfl) dX11_beginAnswer_19 ?_
    refine lv_ifnonnullN hx hb dX11_beginAnswer_22 ?_
    refine lv_aload_n hx hb dX11_beginAnswer_25 rfl (lv_at hl 0 rfl) ?_
    refine j7_read hx hb hown hK (C := RX11) (T := TX11) (N := 19) rfl hly_13_4 hlk_35 (hh_14.at 3 rfl) dX11_beginAnswer_26 ?_
    refine j_ldcSw hx hb hown rstr493 dX11_beginAnswer_29 ?_
    have hsz_16 := hh_14.2.2.2.2.2.1
    have htt_16 := hh_14.2.2.2.2.2.2.1
    refine W.room (fun hrc_16 hrs_16 => ?_)
    refine va_callv (A0 := jA base) (H0 := s.heap) (va_runV (As := [.ref str493]) (rest := []) ⟨hx, hb, hml, hown, hts⟩ (uX0_text l dC dI ca base B hB hAp hB2 hB196 G_5 H_5 bo str493 4 qc_5 qa_5 m_qa_5 LC LS) (cwV 1 hts (jgV (jWr_26 _ (List.mem_of_getElem? (i := 11) rfl)) (jWr_25 _ (List.mem_of_getElem? (i := 22) rfl)) (jWr_25 _ (List.mem_of_getElem? (i := 23) rfl)) (jWr_1 _ (List.mem_of_getElem? (i := 14) rfl)) (jWr_26 _ (List.mem_of_getElem? (i := 0) rfl))) rfl rfl rfl (by decide +kernel) ⟨by rw [← hR]; exact Nat.le_of_ble_eq_true rfl, by rw [← hR]; exact Nat.le_of_ble_eq_true rfl⟩) ⟨fun a U g mk q => by obtain ⟨q0, q1, q2, qK, q10, q11, q12, q13, q14⟩ := q; exact ⟨q0, q1, q2, jG.calling g mk a qK, (q10.moved (Vm.Alike.refl U.vm)), q11, q12, q13, q14⟩, hh_14.recv (C := RX0) (T := TX0) (N := 2) hB2 rfl (by decide) hg_10 hK, fun U hU hW => ⟨rfl, hU, hh_14.2.1, hG.step hW hU hh_14.1, (hstr493.moved hW.alike).kept hh_14.1.2.1, hg_10, hgq_5_0, (hh_14.2.2.1.sub (L1 := [(bo, 2, 1, .int qc_5), (bo, 2, 0, .ref qa_5)]) [1, 2] rfl), (by omega), (by omega), by first | omega | (refine ⟨?_, ?_, ?_, ?_, ?_, ?_⟩ <;> (first | omega | rfl | assumption | decide | exact Or.inl rfl | exact Or.inr rfl | (simp only; omega)))⟩⟩ rfl rfl hl.1 rfl (lv_room (Nat.le_of_ble_eq_true rfl)) dX11_beginAnswer_32 ⟨by rw [hRc]; omega, by rw [hRs]; omega⟩) hh_14.1 (fun q _ h => h) (fun q h => h) (fun u_16 t_16 H_16 locs_16 ht_16 hvm_16 hr_17 hb_16 hz_16 hk_16 hS_16 => ?_)
    obtain ⟨qc_16, qa_16, m_qa_16, G_16⟩ := u_16
    rw [ht_16] at hb_16
    simp only at hb_16
    obtain ⟨⟨hb_161, hb_162, hb_163, hb_164, hb_165, hb_166⟩, hgq_16_0, hN_16, hbO_16⟩ := hb_16
    have hy_18 := hh_14.iv 0 rfl
    have hh_16 : jSt (dC, dI) B base G0 G_16 EX11_beginAnswer s.heap ((0 + ((m_qa_5 - n_pa) / 16)) + ((m_qa_16 - m_qa_5) / 16)) ((0 + (2 * (m_qa_5 - n_pa))) + (2 * (m_qa_16 - m_qa_5))) [(bo, 2, 1, .int qc_16), (bo, 2, 0, .ref qa_16), (r1, 10, 0, .null), (r0, 13, 4, .ref bo)] [] [] H_16 locs_16 := (hh_14.callG hb_161 hb_162 hb_163 hb_164 hb_165 hS_16 rfl (L1 := [(r1, 10, 0, .null), (r0, 13, 4, .ref bo)]) [0, 3] rfl rfl (M1 := []) [] rfl rfl (I1 := []) [] rfl rfl).more hb_166
    have hNn_16 : (jNk [0, 1, 2, 3, 4, 5, 6, 7, 8, 9, 10, 11, 12, 13, 14, 15, 16]) G0 G_16 := (hNn_5).tr hN_16
    have hg_19 := hb_162 _ _ hg_8
    have hg_20 := hb_162 _ _ hg_9
    have hg_21 := hb_162 _ _ hg_10
    have hyp_16 : qc_16.toInt ≤ (m_qa_16 : Nat) ∧ m_qa_16 ≤ 1048576 := by (try simp only at hr_17); omega
    have hy_22 := jYb.own hy_18 hbO_16 hb_162 hN_16 (by decide) (fun _ => ⟨_, _, _, hh_16.at 0 rfl, hh_16.at 1 rfl, hgq_16_0, hyp_16⟩)
    have hh_23 := hh_16.addI (jYb.ie hy_22)
    clear hh_16
    try simp only at hr_17
    obtain ⟨hr_17_0, hr_17_1, hr_17_2, hr_17_3, hr_17_4⟩ := hr_17
    refine lv_goto (tgt := 49) hx hb dX11_beginAnswer_35 (by decide) ?_
    refine lv_aload_n hx hb dX11_beginAnswer_49 rfl (lv_at hl 0 rfl) ?_
    refine j7_read hx hb hown hK (C := RX11) (T := TX11) (N := 19) rfl hly_13_4 hlk_35 (hh_23.at 3 rfl) dX11_beginAnswer_50 ?_
    refine lv_aload_n hx hb dX11_beginAnswer_53 rfl (lv_at hl 2 rfl) ?_
    have hsz_24 := hh_23.2.2.2.2.2.1
    have htt_24 := hh_23.2.2.2.2.2.2.1
    refine W.room (fun hrc_24 hrs_24 => ?_)
    refine va_callv (A0 := jA base) (H0 := s.heap) (va_runV (As := [.ref r2]) (rest := []) ⟨hx, hb, hml, hown, hts⟩ (uX0_text l dC dI ca base B hB hAp hB2 hB196 G_16 H_16 bo r2 n2 qc_16 qa_16 m_qa_16 LC LS) (cwV 1 hts (jgV (jWr_26 _ (List.mem_of_getElem? (i := 11) rfl)) (jWr_25 _ (List.mem_of_getElem? (i := 22) rfl)) (jWr_25 _ (List.mem_of_getElem? (i := 23) rfl)) (jWr_1 _ (List.mem_of_getElem? (i := 14) rfl)) (jWr_26 _ (List.mem_of_getElem? (i := 0) rfl))) rfl rfl rfl (by decide +kernel) ⟨by rw [← hR]; exact Nat.le_of_ble_eq_true rfl, by rw [← hR]; exact Nat.le_of_ble_eq_true rfl⟩) ⟨fun a U g mk q => by obtain ⟨q0, q1, q2, qK, q10, q11, q12, q13, q14⟩ := q; exact ⟨q0, q1, q2, jG.calling g mk a qK, (q10.moved (Vm.Alike.refl U.vm)), q11, q12, q13, q14⟩, hh_23.recv (C := RX0) (T := TX0) (N := 2) hB2 rfl (by decide) hg_21 hK, fun U hU hW => ⟨rfl, hU, hh_23.2.1, hG.step hW hU hh_23.1, (hstr_r2.moved hW.alike).kept hh_23.1.2.1, hg_21, hgq_16_0, (hh_23.2.2.1.sub (L1 := [(bo, 2, 1, .int qc_16), (bo, 2, 0, .ref qa_16)]) [0, 1] rfl), (by omega), (by omega), by first | omega | (refine ⟨?_, ?_, ?_, ?_, ?_, ?_⟩ <;> (first | omega | rfl | assumption | decide | exact Or.inl rfl | exact Or.inr rfl | (simp only; omega)))⟩⟩ rfl rfl hl.1 rfl (lv_room (Nat.le_of_ble_eq_true rfl)) dX11_beginAnswer_54 ⟨by rw [hRc]; omega, by rw [hRs]; omega⟩) hh_23.1 (fun q _ h => h) (fun q h => h) (fun u_24 t_24 H_24 locs_24 ht_24 hvm_24 hr_25 hb_24 hz_24 hk_24 hS_24 => ?_)
    obtain ⟨qc_24, qa_24, m_qa_24, G_24⟩ := u_24
    rw [ht_24] at hb_24
    simp only at hb_24
    obtain ⟨⟨hb_241, hb_242, hb_243, hb_244, hb_245, hb_246⟩, hgq_24_0, hN_24, hbO_24⟩ := hb_24
    have hy_26 := hh_23.iv 0 rfl
    have hh_24 : jSt (dC, dI) B base G0 G_24 EX11_beginAnswer s.heap (((0 + ((m_qa_5 - n_pa) / 16)) + ((m_qa_16 - m_qa_5) / 16)) + ((m_qa_24 - m_qa_16) / 16)) (((0 + (2 * (m_qa_5 - n_pa))) + (2 * (m_qa_16 - m_qa_5))) + (2 * (m_qa_24 - m_qa_16))) [(bo, 2, 1, .int qc_24), (bo, 2, 0, .ref qa_24), (r1, 10, 0, .null), (r0, 13, 4, .ref bo)] [] [] H_24 locs_24 := (hh_23.callG hb_241 hb_242 hb_243 hb_244 hb_245 hS_24 rfl (L1 := [(r1, 10, 0, .null), (r0, 13, 4, .ref bo)]) [2, 3] rfl rfl (M1 := []) [] rfl rfl (I1 := []) [] rfl rfl).more hb_246
    have hNn_24 : (jNk [0, 1, 2, 3, 4, 5, 6, 7, 8, 9, 10, 11, 12, 13, 14, 15, 16]) G0 G_24 := (hNn_16).tr hN_24
    have hg_27 := hb_242 _ _ hg_19
    have hg_28 := hb_242 _ _ hg_20
    have hg_29 := hb_242 _ _ hg_21
    have hyp_24 : qc_24.toInt ≤ (m_qa_24 : Nat) ∧ m_qa_24 ≤ 1048576 := by (try simp only at hr_25); omega
    have hy_30 := jYb.own hy_26 hbO_24 hb_242 hN_24 (by decide) (fun _ => ⟨_, _, _, hh_24.at 0 rfl, hh_24.at 1 rfl, hgq_24_0, hyp_24⟩)
    have hh_31 := hh_24.addI (jYb.ie hy_30)
    clear hh_24
    try simp only at hr_25
    obtain ⟨hr_25_0, hr_25_1, hr_25_2, hr_25_3, hr_25_4⟩ := hr_25
    have hsz_32 := hh_31.2.2.2.2.2.1
    have htt_32 := hh_31.2.2.2.2.2.2.1
    refine W.room (fun hrc_32 hrs_32 => ?_)
    refine W.widen (k := LC - s.heap.size) (n := LS - jTot s.heap) (by omega) (by omega) ?_
    rw [hQ]
    exact W.vret hx hb hr (fun t ht hW => ⟨⟨(qc_24, qa_24, m_qa_24, G_24), rfl, by (try dsimp only); exact ⟨(by first | omega | rfl | assumption | fail), (by first | omega | rfl | assumption | fail), (by first | omega | rfl | assumption | fail), (by first | omega | rfl | assumption | fail), (by first | assumption | fail | omega)⟩, ⟨hh_31.ra (by first | omega | (simp only; omega)) (by first | omega | (simp only; omega)) (M1 := [(bo, 2, 1, .int qc_24), (bo, 2, 0, .ref qa_24)]) [0, 1] rfl ht, hgq_24_0, hNn_24, by rw [ht]; exact hh_31.2.2.2.2.2.2.2.2.sub (L1 := [(jFy, jYb dC dI G_24)]) [0] rfl⟩⟩, by rw [ht]; try exact hh_31.1.1, fun q h9 hq => by rw [ht]; try exact hh_31.1.2.1 q h9 hq⟩) hh_31.1.2.2 dX11_beginAnswer_57
  · refine j7_read hx hb hown hK (C := RX8) (T := TX8) (N := 5) rfl hly_10_0 hlk_114 (hh_14.at 0 rfl) dX11_beginAnswer_19 ?_
    refine lv_ifnonnull (tgt := 38) hx hb dX11_beginAnswer_22 (by decide) ?_
    refine lv_aload_n hx hb dX11_beginAnswer_38 rfl (lv_at hl 0 rfl) ?_
    refine j7_read hx hb hown hK (C := RX11) (T := TX11) (N := 19) rfl hly_13_4 hlk_35 (hh_14.at 3 rfl) dX11_beginAnswer_39 ?_
    refine lv_aload_n hx hb dX11_beginAnswer_42 rfl (lv_at hl 1 rfl) ?_
    refine j7_read hx hb hown hK (C := RX8) (T := TX8) (N := 5) rfl hly_10_0 hlk_114 (hh_14.at 0 rfl) dX11_beginAnswer_43 ?_
    have hsz_33 := hh_14.2.2.2.2.2.1
    have htt_33 := hh_14.2.2.2.2.2.2.1
    refine W.room (fun hrc_33 hrs_33 => ?_)
    refine va_callv (A0 := jA base) (H0 := s.heap) (va_runV (As := [.ref id_15]) (rest := []) ⟨hx, hb, hml, hown, hts⟩ (uX0_append l dC dI ca base B hB hAp hB2 hB196 G_5 H_5 bo id_15 qc_5 qa_5 m_qa_5 LC LS) (cwV 1 hts (jgV (jWr_26 _ (List.mem_of_getElem? (i := 12) rfl)) (jWr_26 _ (List.mem_of_getElem? (i := 13) rfl)) (jWr_26 _ (List.mem_of_getElem? (i := 14) rfl)) (jWr_1 _ (List.mem_of_getElem? (i := 14) rfl)) (jWr_26 _ (List.mem_of_getElem? (i := 15) rfl))) rfl rfl rfl (by decide +kernel) ⟨by rw [← hR]; exact Nat.le_of_ble_eq_true rfl, by rw [← hR]; exact Nat.le_of_ble_eq_true rfl⟩) ⟨fun a U g mk q => by obtain ⟨q0, q1, q2, qK, q10, q11, q12, q13, q14⟩ := q; exact ⟨q0, q1, q2, jG.calling g mk a qK, q10, q11, q12, q13, q14⟩, hh_14.recv (C := RX0) (T := TX0) (N := 2) hB2 rfl (by decide) hg_10 hK, fun U hU hW => ⟨rfl, hU, hh_14.2.1, hG.step hW hU hh_14.1, hg_10, hg_id_15, hgq_5_0, (hh_14.2.2.1.sub (L1 := [(bo, 2, 1, .int qc_5), (bo, 2, 0, .ref qa_5)]) [1, 2] rfl), (by omega), (by omega), by first | omega | (refine ⟨?_, ?_, ?_, ?_, ?_⟩ <;> (first | omega | rfl | assumption | decide | exact Or.inl rfl | exact Or.inr rfl | (simp only; omega)))⟩⟩ rfl rfl hl.1 rfl (lv_room (Nat.le_of_ble_eq_true rfl)) dX11_beginAnswer_46 ⟨by rw [hRc]; omega, by rw [hRs]; omega⟩) hh_14.1 (fun q _ h => h) (fun q h => h) (fun u_33 t_33 H_33 locs_33 ht_33 hvm_33 hr_34 hb_33 hz_33 hk_33 hS_33 => ?_)
    obtain ⟨qc_33, qa_33, m_qa_33, G_33⟩ := u_33
    rw [ht_33] at hb_33
    simp only at hb_33
    obtain ⟨⟨hb_331, hb_332, hb_333, hb_334, hb_335, hb_336⟩, hgq_33_0, hN_33, hbO_33⟩ := hb_33
    have hy_35 := hh_14.iv 0 rfl
    have hh_33 : jSt (dC, dI) B base G0 G_33 EX11_beginAnswer s.heap ((0 + ((m_qa_5 - n_pa) / 16)) + ((m_qa_33 - m_qa_5) / 16)) ((0 + (2 * (m_qa_5 - n_pa))) + (2 * (m_qa_33 - m_qa_5))) [(bo, 2, 1, .int qc_33), (bo, 2, 0, .ref qa_33), (r1, 10, 0, .ref id_15), (r0, 13, 4, .ref bo)] [] [] H_33 locs_33 := (hh_14.callG hb_331 hb_332 hb_333 hb_334 hb_335 hS_33 rfl (L1 := [(r1, 10, 0, .ref id_15), (r0, 13, 4, .ref bo)]) [0, 3] rfl rfl (M1 := []) [] rfl rfl (I1 := []) [] rfl rfl).more hb_336
    have hNn_33 : (jNk [0, 1, 2, 3, 4, 5, 6, 7, 8, 9, 10, 11, 12, 13, 14, 15, 16]) G0 G_33 := (hNn_5).tr hN_33
    have hg_36 := hb_332 _ _ hg_8
    have hg_37 := hb_332 _ _ hg_9
    have hg_38 := hb_332 _ _ hg_id_15
    have hg_39 := hb_332 _ _ hg_10
    have hyp_33 : qc_33.toInt ≤ (m_qa_33 : Nat) ∧ m_qa_33 ≤ 1048576 := by (try simp only at hr_34); omega
    have hy_40 := jYb.own hy_35 hbO_33 hb_332 hN_33 (by decide) (fun _ => ⟨_, _, _, hh_33.at 0 rfl, hh_33.at 1 rfl, hgq_33_0, hyp_33⟩)
    have hh_41 := hh_33.addI (jYb.ie hy_40)
    clear hh_33
    try simp only at hr_34
    obtain ⟨hr_34_0, hr_34_1, hr_34_2, hr_34_3, hr_34_4⟩ := hr_34
    refine lv_aload_n hx hb dX11_beginAnswer_49 rfl (lv_at hl 0 rfl) ?_
    refine j7_read hx hb hown hK (C := RX11) (T := TX11) (N := 19) rfl hly_13_4 hlk_35 (hh_41.at 3 rfl) dX11_beginAnswer_50 ?_
    refine lv_aload_n hx hb dX11_beginAnswer_53 rfl (lv_at hl 2 rfl) ?_
    have hsz_42 := hh_41.2.2.2.2.2.1
    have htt_42 := hh_41.2.2.2.2.2.2.1
    refine W.room (fun hrc_42 hrs_42 => ?_)
    refine va_callv (A0 := jA base) (H0 := s.heap) (va_runV (As := [.ref r2]) (rest := []) ⟨hx, hb, hml, hown, hts⟩ (uX0_text l dC dI ca base B hB hAp hB2 hB196 G_33 H_33 bo r2 n2 qc_33 qa_33 m_qa_33 LC LS) (cwV 1 hts (jgV (jWr_26 _ (List.mem_of_getElem? (i := 11) rfl)) (jWr_25 _ (List.mem_of_getElem? (i := 22) rfl)) (jWr_25 _ (List.mem_of_getElem? (i := 23) rfl)) (jWr_1 _ (List.mem_of_getElem? (i := 14) rfl)) (jWr_26 _ (List.mem_of_getElem? (i := 0) rfl))) rfl rfl rfl (by decide +kernel) ⟨by rw [← hR]; exact Nat.le_of_ble_eq_true rfl, by rw [← hR]; exact Nat.le_of_ble_eq_true rfl⟩) ⟨fun a U g mk q => by obtain ⟨q0, q1, q2, qK, q10, q11, q12, q13, q14⟩ := q; exact ⟨q0, q1, q2, jG.calling g mk a qK, (q10.moved (Vm.Alike.refl U.vm)), q11, q12, q13, q14⟩, hh_41.recv (C := RX0) (T := TX0) (N := 2) hB2 rfl (by decide) hg_39 hK, fun U hU hW => ⟨rfl, hU, hh_41.2.1, hG.step hW hU hh_41.1, (hstr_r2.moved hW.alike).kept hh_41.1.2.1, hg_39, hgq_33_0, (hh_41.2.2.1.sub (L1 := [(bo, 2, 1, .int qc_33), (bo, 2, 0, .ref qa_33)]) [0, 1] rfl), (by omega), (by omega), by first | omega | (refine ⟨?_, ?_, ?_, ?_, ?_, ?_⟩ <;> (first | omega | rfl | assumption | decide | exact Or.inl rfl | exact Or.inr rfl | (simp only; omega)))⟩⟩ rfl rfl hl.1 rfl (lv_room (Nat.le_of_ble_eq_true rfl)) dX11_beginAnswer_54 ⟨by rw [hRc]; omega, by rw [hRs]; omega⟩) hh_41.1 (fun q _ h => h) (fun q h => h) (fun u_42 t_42 H_42 locs_42 ht_42 hvm_42 hr_43 hb_42 hz_42 hk_42 hS_42 => ?_)
    obtain ⟨qc_42, qa_42, m_qa_42, G_42⟩ := u_42
    rw [ht_42] at hb_42
    simp only at hb_42
    obtain ⟨⟨hb_421, hb_422, hb_423, hb_424, hb_425, hb_426⟩, hgq_42_0, hN_42, hbO_42⟩ := hb_42
    have hy_44 := hh_41.iv 0 rfl
    have hh_42 : jSt (dC, dI) B base G0 G_42 EX11_beginAnswer s.heap (((0 + ((m_qa_5 - n_pa) / 16)) + ((m_qa_33 - m_qa_5) / 16)) + ((m_qa_42 - m_qa_33) / 16)) (((0 + (2 * (m_qa_5 - n_pa))) + (2 * (m_qa_33 - m_qa_5))) + (2 * (m_qa_42 - m_qa_33))) [(bo, 2, 1, .int qc_42), (bo, 2, 0, .ref qa_42), (r1, 10, 0, .ref id_15), (r0, 13, 4, .ref bo)] [] [] H_42 locs_42 := (hh_41.callG hb_421 hb_422 hb_423 hb_424 hb_425 hS_42 rfl (L1 := [(r1, 10, 0, .ref id_15), (r0, 13, 4, .ref bo)]) [2, 3] rfl rfl (M1 := []) [] rfl rfl (I1 := []) [] rfl rfl).more hb_426
    have hNn_42 : (jNk [0, 1, 2, 3, 4, 5, 6, 7, 8, 9, 10, 11, 12, 13, 14, 15, 16]) G0 G_42 := (hNn_33).tr hN_42
    have hg_45 := hb_422 _ _ hg_36
    have hg_46 := hb_422 _ _ hg_37
    have hg_47 := hb_422 _ _ hg_38
    have hg_48 := hb_422 _ _ hg_39
    have hyp_42 : qc_42.toInt ≤ (m_qa_42 : Nat) ∧ m_qa_42 ≤ 1048576 := by (try simp only at hr_43); omega
    have hy_49 := jYb.own hy_44 hbO_42 hb_422 hN_42 (by decide) (fun _ => ⟨_, _, _, hh_42.at 0 rfl, hh_42.at 1 rfl, hgq_42_0, hyp_42⟩)
    have hh_50 := hh_42.addI (jYb.ie hy_49)
    clear hh_42
    try simp only at hr_43
    obtain ⟨hr_43_0, hr_43_1, hr_43_2, hr_43_3, hr_43_4⟩ := hr_43
    have hsz_51 := hh_50.2.2.2.2.2.1
    have htt_51 := hh_50.2.2.2.2.2.2.1
    refine W.room (fun hrc_51 hrs_51 => ?_)
    refine W.widen (k := LC - s.heap.size) (n := LS - jTot s.heap) (by omega) (by omega) ?_
    rw [hQ]
    exact W.vret hx hb hr (fun t ht hW => ⟨⟨(qc_42, qa_42, m_qa_42, G_42), rfl, by (try dsimp only); exact ⟨(by first | omega | rfl | assumption | fail), (by first | omega | rfl | assumption | fail), (by first | omega | rfl | assumption | fail), (by first | omega | rfl | assumption | fail), (by first | assumption | fail | omega)⟩, ⟨hh_50.ra (by first | omega | (simp only; omega)) (by first | omega | (simp only; omega)) (M1 := [(bo, 2, 1, .int qc_42), (bo, 2, 0, .ref qa_42)]) [0, 1] rfl ht, hgq_42_0, hNn_42, by rw [ht]; exact hh_50.2.2.2.2.2.2.2.2.sub (L1 := [(jFy, jYb dC dI G_42)]) [0] rfl⟩⟩, by rw [ht]; try exact hh_50.1.1, fun q h9 hq => by rw [ht]; try exact hh_50.1.2.1 q h9 hq⟩) hh_50.1.2.2 dX11_beginAnswer_57
set_option maxHeartbeats 4000000 in
set_option maxRecDepth 20000 in
theorem uX11_position (l : Launch) (dC : Nat → ClassId) (dI : Nat → Nat → Nat) (ca : Nat → ClassId) (base : Nat) (B : jF) (hB : jBok B) (hAp : jAp (dC, dI)) (hB2 : ∀ n G a H, B 2 n G a H ↔ jOb (dC, dI) 2 2 (F2 n G) a H) (hB3 : ∀ n G a H, B 3 n G a H ↔ jOb (dC, dI) 3 17 (F3 n G) a H) (hB13 : ∀ n G a H, B 13 n G a H ↔ jOb (dC, dI) 13 19 (F13 n G) a H) (hB101 : ∀ n G a H, B 101 n G a H ↔ jAr (dC, dI) (ca 1) (fun j z => True) n a H) (hB196 : ∀ n G a H, B 196 n G a H ↔ jAr (dC, dI) (ca 0) (fun j z => jBf j z) n a H) (G0 : jT) (H0 : Heap) (r0 : Nat) (r1 : Nat) (a2 : Int32) (bo : Nat) (pc : Int32) (pa : Nat) (n_pa : Nat) (LC LS : Nat) : Met l yX11_position (jw yX11_position cX11_position 3 none) ({ frames := 5, cells := LC - H0.size, slots := LS - jTot H0, locals := 163 }) (va_Pc [.ref r0, .ref r1, .int a2] (fun U => U.heap = H0 ∧ jX B base G0 [] H0 ∧ jG dC dI ca base U ∧ G0 r1 = some (3, 0) ∧ G0 r0 = some (13, 0) ∧ G0 bo = some (2, 0) ∧ G0 pa = some (196, n_pa) ∧ jP (dC, dI) G0 H0 [(r0, 13, 4, .ref bo), (bo, 2, 1, .int pc), (bo, 2, 0, .ref pa)] ∧ jIs (dC, dI) G0 H0 [(jFy, jYb dC dI G0)] ∧ H0.size + (1048576 - n_pa) / 16 + 1 ≤ LC ∧ jTot H0 + 2 * (1048576 - n_pa) ≤ LS ∧ 0 ≤ pc.toInt ∧ pc.toInt ≤ n_pa ∧ 16 ≤ n_pa ∧ n_pa ≤ 1048576 ∧ jPw n_pa)) (va_Qv (S := Int32 × Nat × Nat × jT) (fun u => 0 ≤ u.1.toInt ∧ u.1.toInt ≤ u.2.2.1 ∧ n_pa ≤ u.2.2.1 ∧ u.2.2.1 ≤ 1048576 ∧ jPw u.2.2.1) (fun u t => jRa (dC, dI) B base G0 u.2.2.2 EX11_position H0 ((u.2.2.1 - n_pa) / 16) (2 * (u.2.2.1 - n_pa)) [(bo, 2, 1, .int u.1), (bo, 2, 0, .ref u.2.1)] t.heap ∧ u.2.2.2 u.2.1 = some (196, u.2.2.1) ∧ (jNk [0, 1, 2, 3, 4, 5, 6, 7, 8, 9, 10, 11, 12, 13, 14, 15, 16]) G0 u.2.2.2 ∧ jIs (dC, dI) u.2.2.2 t.heap [(jFy, jYb dC dI u.2.2.2)]) (jA base)) (LC - H0.size) (LS - jTot H0) (jA base) := by
  refine Met.ofW (cc := cX11_position) (maxL := 3) (ret := none) (by decide) rfl ?_
  intro p e s m args below meth c s₁ Bd hml hv
  obtain ⟨rfl, hH0, hX, hG, hg_r1, hg_r0, hg_bo, hg_pa, hP0, hI0, hLC0, hLS0, hp0, hp1, hp2, hp3, hp4⟩ := hv
  have hK := hG.1
  have hx := Bd.exec
  have hb := Bd.bytes
  have hr := Bd.returns
  have hts := atoms_spec (ws := (jw yX11_position cX11_position 3 none)) Bd.pre
  have htw : ∀ w ∈ jWl, w.before _ s = true := fun w h => hts w (List.mem_cons_of_mem _ h)
  have hown : s.vm.findClass RX11 = some m.cls := findClass_of_methodNamed Bd.named
  have hlocks := Bd.notSynchronized
  obtain ⟨Q, hQ⟩ : ∃ Q, Q = MQ below (va_Qv (S := Int32 × Nat × Nat × jT) (fun u => 0 ≤ u.1.toInt ∧ u.1.toInt ≤ u.2.2.1 ∧ n_pa ≤ u.2.2.1 ∧ u.2.2.1 ≤ 1048576 ∧ jPw u.2.2.1) (fun u t => jRa (dC, dI) B base G0 u.2.2.2 EX11_position H0 ((u.2.2.1 - n_pa) / 16) (2 * (u.2.2.1 - n_pa)) [(bo, 2, 1, .int u.1), (bo, 2, 0, .ref u.2.1)] t.heap ∧ u.2.2.2 u.2.1 = some (196, u.2.2.1) ∧ (jNk [0, 1, 2, 3, 4, 5, 6, 7, 8, 9, 10, 11, 12, 13, 14, 15, 16]) G0 u.2.2.2 ∧ jIs (dC, dI) u.2.2.2 t.heap [(jFy, jYb dC dI u.2.2.2)]) (jA base)) ([.ref r0, .ref r1, .int a2] : List Value).toArray s (LC - H0.size) (LS - jTot H0) (jA base) := ⟨_, rfl⟩
  rw [← hQ]
  have hl := lv_entry ([.ref r0, .ref r1, .int a2]) (n := 3) (Nat.le_of_ble_eq_true rfl)
  rw [lg_entry_eq]
  generalize (lg_sl ([.ref r0, .ref r1, .int a2]) ++ List.replicate (3 - (lg_sl ([.ref r0, .ref r1, .int a2])).length) Slot.unset).toArray = ls at hl ⊢
  have hl : lv_has ls 3 [(0, .ref r0), (1, .ref r1), (2, .int a2)] := hl
  generalize hR : (headSpec (jw yX11_position cX11_position 3 none) ({ frames := 5, cells := LC - H0.size, slots := LS - jTot H0, locals := 163 })).room = R
  subst hH0
  have hh : jSt (dC, dI) B base G0 G0 EX11_position s.heap 0 0 [(r0, 13, 4, .ref bo), (bo, 2, 1, .int pc), (bo, 2, 0, .ref pa)] [] [(jFy, jYb dC dI G0)] s.heap [] := jSt.start hX hP0 jMc.nil hI0
  clear hX hP0
  have hk0 : (0 : Int32).toInt = 0 := by decide
  have hk1 : (1 : Int32).toInt = 1 := by decide
  have hk125 : (125 : Int32).toInt = 125 := by decide
  have hly_3_14 := htw (u_lay RX1 TX1 14) (jWc_wsX10 _ (u_in_lay (by decide)))
  have hly_3_15 := htw (u_lay RX1 TX1 15) (jWc_wsX10 _ (u_in_lay (by decide)))
  have hly_13_4 := htw (u_lay RX11 TX11 4) (jWc_wsX110 _ (u_in_lay (by decide)))
  have hlk_35 := (htw (.fieldLink RX11 35 "ProofServer" "body" "LProofServer$Bytes;") (jWr_2 _ (List.mem_of_getElem? (i := 1) rfl)))
  obtain ⟨str534, rstr534, hstr5340⟩ := hG.str (o := RX11) (k := 534) (tx := "{\"line\":") (List.mem_of_getElem? (i := 1233) (by decide +kernel))
  have hstr534 : jStr base str534 8 s s.heap := hstr5340
  have hlk_536 := (htw (.fieldLink RX11 536 "ProofServer$Document" "line" "I") (jWr_40 _ (List.mem_of_getElem? (i := 19) rfl)))
  obtain ⟨str538, rstr538, hstr5380⟩ := hG.str (o := RX11) (k := 538) (tx := ",\"character\":") (List.mem_of_getElem? (i := 1234) (by decide +kernel))
  have hstr538 : jStr base str538 13 s s.heap := hstr5380
  have hlk_540 := (htw (.fieldLink RX11 540 "ProofServer$Document" "lineStart" "I") (jWr_40 _ (List.mem_of_getElem? (i := 20) rfl)))
  have hrg_a2 := jb_rng a2
  have hbs : base ≤ s.heap.size := Nat.le_of_lt (Nat.lt_of_le_of_lt (hh.ab hg_r0).1 (hh.ab hg_r0).2)
  have hRc : R.cells = LC - s.heap.size := by rw [← hR]; rfl
  have hRs : R.slots = LS - jTot s.heap := by rw [← hR]; rfl
  refine lv_aload_n hx hb dX11_position_0 rfl (lv_at hl 1 rfl) ?_
  refine lv_iload_n hx hb dX11_position_1 rfl (lv_at hl 2 rfl) ?_
  have hsz_1 := hh.2.2.2.2.2.1
  have htt_1 := hh.2.2.2.2.2.2.1
  refine W.room (fun hrc_1 hrs_1 => ?_)
  refine va_callv (A0 := jA base) (H0 := s.heap) (va_runV (As := [.int a2]) (rest := []) ⟨hx, hb, hml, hown, hts⟩ (uX1_seek l dC dI ca base B hB hAp hB3 hB101 G0 s.heap r1 a2) (cwV 1 hts (jgV (jWr_40 _ (List.mem_of_getElem? (i := 21) rfl)) (jWr_40 _ (List.mem_of_getElem? (i := 22) rfl)) (jWr_40 _ (List.mem_of_getElem? (i := 23) rfl)) (jWr_2 _ (List.mem_of_getElem? (i := 21) rfl)) (jWr_41 _ (List.mem_of_getElem? (i := 0) rfl))) rfl rfl rfl (by decide +kernel) ⟨by rw [← hR]; exact Nat.le_of_ble_eq_true rfl, by rw [← hR]; exact Nat.le_of_ble_eq_true rfl⟩) ⟨fun a U g mk q => by obtain ⟨q0, q1, q2, qK, q10, q11, q12⟩ := q; exact ⟨q0, q1, q2, jG.calling g mk a qK, q10, q11, q12⟩, hh.recv (C := RX1) (T := TX1) (N := 17) hB3 rfl (by decide) hg_r1 hK, fun U hU hW => ⟨rfl, hU, hh.2.1, hG.step hW hU hh.1, hg_r1, jP.nil, trivial⟩⟩ rfl rfl hl.1 rfl (lv_room (Nat.le_of_ble_eq_true rfl)) dX11_position_2 ⟨by rw [hRc]; show _ + 0 ≤ _; omega, by rw [hRs]; show _ + 0 ≤ _; omega⟩) hh.1 (fun q _ h => h) (fun q h => h) (fun u_1 t_1 H_1 locs_1 ht_1 hvm_1 hr_2 hb_1 hz_1 hk_1 hS_1 => ?_)
  rw [ht_1] at hb_1
  obtain ⟨hb_11, hb_12, hb_13, hb_14, hb_15⟩ := hb_1
  have hh_1 : jSt (dC, dI) B base G0 G0 EX11_position s.heap 0 0 [(r0, 13, 4, .ref bo), (bo, 2, 1, .int pc), (bo, 2, 0, .ref pa)] [] [(jFy, jYb dC dI G0)] H_1 locs_1 := ((hh.call hb_11 hb_12 hb_13 hb_14 hS_1 rfl (L1 := [(r0, 13, 4, .ref bo), (bo, 2, 1, .int pc), (bo, 2, 0, .ref pa)]) [0, 1, 2] rfl rfl (M1 := []) [] rfl rfl (I1 := [(jFy, jYb dC dI G0)]) [0] rfl rfl).more hb_15)
  clear hh ht_1 hvm_1 hz_1 hk_1 hS_1 hb_11 hb_12 hb_13 hb_14 hb_15
  refine lv_aload_n hx hb dX11_position_5 rfl (lv_at hl 0 rfl) ?_
  refine j7_read hx hb hown hK (C := RX11) (T := TX11) (N := 19) rfl hly_13_4 hlk_35 (hh_1.at 0 rfl) dX11_position_6 ?_
  refine j_ldcSw hx hb hown rstr534 dX11_position_9 ?_
  have hsz_3 := hh_1.2.2.2.2.2.1
  have htt_3 := hh_1.2.2.2.2.2.2.1
  refine W.room (fun hrc_3 hrs_3 => ?_)
  refine va_callv (A0 := jA base) (H0 := s.heap) (va_runV (As := [.ref str534]) (rest := []) ⟨hx, hb, hml, hown, hts⟩ (uX0_text l dC dI ca base B hB hAp hB2 hB196 G0 H_1 bo str534 8 pc pa n_pa LC LS) (cwV 1 hts (jgV (jWr_26 _ (List.mem_of_getElem? (i := 11) rfl)) (jWr_25 _ (List.mem_of_getElem? (i := 22) rfl)) (jWr_25 _ (List.mem_of_getElem? (i := 23) rfl)) (jWr_1 _ (List.mem_of_getElem? (i := 14) rfl)) (jWr_26 _ (List.mem_of_getElem? (i := 0) rfl))) rfl rfl rfl (by decide +kernel) ⟨by rw [← hR]; exact Nat.le_of_ble_eq_true rfl, by rw [← hR]; exact Nat.le_of_ble_eq_true rfl⟩) ⟨fun a U g mk q => by obtain ⟨q0, q1, q2, qK, q10, q11, q12, q13, q14⟩ := q; exact ⟨q0, q1, q2, jG.calling g mk a qK, (q10.moved (Vm.Alike.refl U.vm)), q11, q12, q13, q14⟩, hh_1.recv (C := RX0) (T := TX0) (N := 2) hB2 rfl (by decide) hg_bo hK, fun U hU hW => ⟨rfl, hU, hh_1.2.1, hG.step hW hU hh_1.1, (hstr534.moved hW.alike).kept hh_1.1.2.1, hg_bo, hg_pa, (hh_1.2.2.1.sub (L1 := [(bo, 2, 1, .int pc), (bo, 2, 0, .ref pa)]) [1, 2] rfl), (by omega), (by omega), by first | omega | (refine ⟨?_, ?_, ?_, ?_, ?_, ?_⟩ <;> (first | omega | rfl | assumption | decide | exact Or.inl rfl | exact Or.inr rfl | (simp only; omega)))⟩⟩ rfl rfl hl.1 rfl (lv_room (Nat.le_of_ble_eq_true rfl)) dX11_position_12 ⟨by rw [hRc]; omega, by rw [hRs]; omega⟩) hh_1.1 (fun q _ h => h) (fun q h => h) (fun u_3 t_3 H_3 locs_3 ht_3 hvm_3 hr_4 hb_3 hz_3 hk_3 hS_3 => ?_)
  obtain ⟨qc_3, qa_3, m_qa_3, G_3⟩ := u_3
  rw [ht_3] at hb_3
  simp only at hb_3
  obtain ⟨⟨hb_31, hb_32, hb_33, hb_34, hb_35, hb_36⟩, hgq_3_0, hN_3, hbO_3⟩ := hb_3
  have hy_5 := hh_1.iv 0 rfl
  have hh_3 : jSt (dC, dI) B base G0 G_3 EX11_position s.heap (0 + ((m_qa_3 - n_pa) / 16)) (0 + (2 * (m_qa_3 - n_pa))) [(bo, 2, 1, .int qc_3), (bo, 2, 0, .ref qa_3), (r0, 13, 4, .ref bo)] [] [] H_3 locs_3 := (hh_1.callG hb_31 hb_32 hb_33 hb_34 hb_35 hS_3 rfl (L1 := [(r0, 13, 4, .ref bo)]) [0] rfl rfl (M1 := []) [] rfl rfl (I1 := []) [] rfl rfl).more hb_36
  have hNn_3 : (jNk [0, 1, 2, 3, 4, 5, 6, 7, 8, 9, 10, 11, 12, 13, 14, 15, 16]) G0 G_3 := (jNk.rf).tr hN_3
  have hg_6 := hb_32 _ _ hg_r0
  have hg_7 := hb_32 _ _ hg_r1
  have hg_8 := hb_32 _ _ hg_bo
  have hyp_3 : qc_3.toInt ≤ (m_qa_3 : Nat) ∧ m_qa_3 ≤ 1048576 := by (try simp only at hr_4); omega
  have hy_9 := jYb.own hy_5 hbO_3 hb_32 hN_3 (by decide) (fun _ => ⟨_, _, _, hh_3.at 0 rfl, hh_3.at 1 rfl, hgq_3_0, hyp_3⟩)
  have hh_10 := hh_3.addI (jYb.ie hy_9)
  clear hh_3
  try simp only at hr_4
  obtain ⟨hr_4_0, hr_4_1, hr_4_2, hr_4_3, hr_4_4⟩ := hr_4
  refine lv_aload_n hx hb dX11_position_15 rfl (lv_at hl 0 rfl) ?_
  refine j7_read hx hb hown hK (C := RX11) (T := TX11) (N := 19) rfl hly_13_4 hlk_35 (hh_10.at 2 rfl) dX11_position_16 ?_
  refine lv_aload_n hx hb dX11_position_19 rfl (lv_at hl 1 rfl) ?_
  obtain ⟨v_11, hv_11, hh_12⟩ := hh_10.pin (C := RX1) (T := TX1) (N := 17) hB3 rfl (by decide) hg_7 (i := 14) (by decide) rfl
  clear hh_10
  obtain ⟨line_13, rfl⟩ := hv_11
  refine j7_read hx hb hown hK (C := RX1) (T := TX1) (N := 17) rfl hly_3_14 hlk_536 (hh_12.at 0 rfl) dX11_position_20 ?_
  have hsz_14 := hh_12.2.2.2.2.2.1
  have htt_14 := hh_12.2.2.2.2.2.2.1
  refine W.room (fun hrc_14 hrs_14 => ?_)
  refine va_callv (A0 := jA base) (H0 := s.heap) (va_runV (As := [.int line_13]) (rest := []) ⟨hx, hb, hml, hown, hts⟩ (uX0_number l dC dI ca base B hB hAp hB2 hB196 G_3 H_3 bo line_13 qc_3 qa_3 m_qa_3 LC LS) (cwV 1 hts (jgV (jWr_26 _ (List.mem_of_getElem? (i := 16) rfl)) (jWr_24 _ (List.mem_of_getElem? (i := 16) rfl)) (jWr_24 _ (List.mem_of_getElem? (i := 17) rfl)) (jWr_1 _ (List.mem_of_getElem? (i := 14) rfl)) (jWr_24 _ (List.mem_of_getElem? (i := 18) rfl))) rfl rfl rfl (by decide +kernel) ⟨by rw [← hR]; exact Nat.le_of_ble_eq_true rfl, by rw [← hR]; exact Nat.le_of_ble_eq_true rfl⟩) ⟨fun a U g mk q => by obtain ⟨q0, q1, q2, qK, q10, q11, q12, q13⟩ := q; exact ⟨q0, q1, q2, jG.calling g mk a qK, q10, q11, q12, q13⟩, hh_12.recv (C := RX0) (T := TX0) (N := 2) hB2 rfl (by decide) hg_8 hK, fun U hU hW => ⟨rfl, hU, hh_12.2.1, hG.step hW hU hh_12.1, hg_8, hgq_3_0, (hh_12.2.2.1.sub (L1 := [(bo, 2, 1, .int qc_3), (bo, 2, 0, .ref qa_3)]) [1, 2] rfl), (by omega), (by omega), by first | omega | (refine ⟨?_, ?_, ?_, ?_, ?_⟩ <;> (first | omega | rfl | assumption | decide | exact Or.inl rfl | exact Or.inr rfl | (simp only; omega)))⟩⟩ rfl rfl hl.1 rfl (lv_room (Nat.le_of_ble_eq_true rfl)) dX11_position_23 ⟨by rw [hRc]; omega, by rw [hRs]; omega⟩) hh_12.1 (fun q _ h => h) (fun q h => h) (fun u_14 t_14 H_14 locs_14 ht_14 hvm_14 hr_15 hb_14 hz_14 hk_14 hS_14 => ?_)
  obtain ⟨qc_14, qa_14, m_qa_14, G_14⟩ := u_14
  rw [ht_14] at hb_14
  simp only at hb_14
  obtain ⟨⟨hb_141, hb_142, hb_143, hb_144, hb_145, hb_146⟩, hgq_14_0, hN_14, hbO_14⟩ := hb_14
  have hy_16 := hh_12.iv 0 rfl
  have hh_14 : jSt (dC, dI) B base G0 G_14 EX11_position s.heap ((0 + ((m_qa_3 - n_pa) / 16)) + ((m_qa_14 - m_qa_3) / 16)) ((0 + (2 * (m_qa_3 - n_pa))) + (2 * (m_qa_14 - m_qa_3))) [(bo, 2, 1, .int qc_14), (bo, 2, 0, .ref qa_14), (r1, 3, 14, .int line_13), (r0, 13, 4, .ref bo)] [] [] H_14 locs_14 := (hh_12.callG hb_141 hb_142 hb_143 hb_144 hb_145 hS_14 rfl (L1 := [(r1, 3, 14, .int line_13), (r0, 13, 4, .ref bo)]) [0, 3] rfl rfl (M1 := []) [] rfl rfl (I1 := []) [] rfl rfl).more hb_146
  have hNn_14 : (jNk [0, 1, 2, 3, 4, 5, 6, 7, 8, 9, 10, 11, 12, 13, 14, 15, 16]) G0 G_14 := (hNn_3).tr hN_14
  have hg_17 := hb_142 _ _ hg_6
  have hg_18 := hb_142 _ _ hg_7
  have hg_19 := hb_142 _ _ hg_8
  have hyp_14 : qc_14.toInt ≤ (m_qa_14 : Nat) ∧ m_qa_14 ≤ 1048576 := by (try simp only at hr_15); omega
  have hy_20 := jYb.own hy_16 hbO_14 hb_142 hN_14 (by decide) (fun _ => ⟨_, _, _, hh_14.at 0 rfl, hh_14.at 1 rfl, hgq_14_0, hyp_14⟩)
  have hh_21 := hh_14.addI (jYb.ie hy_20)
  clear hh_14
  try simp only at hr_15
  obtain ⟨hr_15_0, hr_15_1, hr_15_2, hr_15_3, hr_15_4⟩ := hr_15
  refine lv_aload_n hx hb dX11_position_26 rfl (lv_at hl 0 rfl) ?_
  refine j7_read hx hb hown hK (C := RX11) (T := TX11) (N := 19) rfl hly_13_4 hlk_35 (hh_21.at 3 rfl) dX11_position_27 ?_
  refine j_ldcSw hx hb hown rstr538 dX11_position_30 ?_
  have hsz_22 := hh_21.2.2.2.2.2.1
  have htt_22 := hh_21.2.2.2.2.2.2.1
  refine W.room (fun hrc_22 hrs_22 => ?_)
  refine va_callv (A0 := jA base) (H0 := s.heap) (va_runV (As := [.ref str538]) (rest := []) ⟨hx, hb, hml, hown, hts⟩ (uX0_text l dC dI ca base B hB hAp hB2 hB196 G_14 H_14 bo str538 13 qc_14 qa_14 m_qa_14 LC LS) (cwV 1 hts (jgV (jWr_26 _ (List.mem_of_getElem? (i := 11) rfl)) (jWr_25 _ (List.mem_of_getElem? (i := 22) rfl)) (jWr_25 _ (List.mem_of_getElem? (i := 23) rfl)) (jWr_1 _ (List.mem_of_getElem? (i := 14) rfl)) (jWr_26 _ (List.mem_of_getElem? (i := 0) rfl))) rfl rfl rfl (by decide +kernel) ⟨by rw [← hR]; exact Nat.le_of_ble_eq_true rfl, by rw [← hR]; exact Nat.le_of_ble_eq_true rfl⟩) ⟨fun a U g mk q => by obtain ⟨q0, q1, q2, qK, q10, q11, q12, q13, q14⟩ := q; exact ⟨q0, q1, q2, jG.calling g mk a qK, (q10.moved (Vm.Alike.refl U.vm)), q11, q12, q13, q14⟩, hh_21.recv (C := RX0) (T := TX0) (N := 2) hB2 rfl (by decide) hg_19 hK, fun U hU hW => ⟨rfl, hU, hh_21.2.1, hG.step hW hU hh_21.1, (hstr538.moved hW.alike).kept hh_21.1.2.1, hg_19, hgq_14_0, (hh_21.2.2.1.sub (L1 := [(bo, 2, 1, .int qc_14), (bo, 2, 0, .ref qa_14)]) [0, 1] rfl), (by omega), (by omega), by first | omega | (refine ⟨?_, ?_, ?_, ?_, ?_, ?_⟩ <;> (first | omega | rfl | assumption | decide | exact Or.inl rfl | exact Or.inr rfl | (simp only; omega)))⟩⟩ rfl rfl hl.1 rfl (lv_room (Nat.le_of_ble_eq_true rfl)) dX11_position_33 ⟨by rw [hRc]; omega, by rw [hRs]; omega⟩) hh_21.1 (fun q _ h => h) (fun q h => h) (fun u_22 t_22 H_22 locs_22 ht_22 hvm_22 hr_23 hb_22 hz_22 hk_22 hS_22 => ?_)
  obtain ⟨qc_22, qa_22, m_qa_22, G_22⟩ := u_22
  rw [ht_22] at hb_22
  simp only at hb_22
  obtain ⟨⟨hb_221, hb_222, hb_223, hb_224, hb_225, hb_226⟩, hgq_22_0, hN_22, hbO_22⟩ := hb_22
  have hy_24 := hh_21.iv 0 rfl
  have hh_22 : jSt (dC, dI) B base G0 G_22 EX11_position s.heap (((0 + ((m_qa_3 - n_pa) / 16)) + ((m_qa_14 - m_qa_3) / 16)) + ((m_qa_22 - m_qa_14) / 16)) (((0 + (2 * (m_qa_3 - n_pa))) + (2 * (m_qa_14 - m_qa_3))) + (2 * (m_qa_22 - m_qa_14))) [(bo, 2, 1, .int qc_22), (bo, 2, 0, .ref qa_22), (r1, 3, 14, .int line_13), (r0, 13, 4, .ref bo)] [] [] H_22 locs_22 := (hh_21.callG hb_221 hb_222 hb_223 hb_224 hb_225 hS_22 rfl (L1 := [(r1, 3, 14, .int line_13), (r0, 13, 4, .ref bo)]) [2, 3] rfl rfl (M1 := []) [] rfl rfl (I1 := []) [] rfl rfl).more hb_226
  have hNn_22 : (jNk [0, 1, 2, 3, 4, 5, 6, 7, 8, 9, 10, 11, 12, 13, 14, 15, 16]) G0 G_22 := (hNn_14).tr hN_22
  have hg_25 := hb_222 _ _ hg_17
  have hg_26 := hb_222 _ _ hg_18
  have hg_27 := hb_222 _ _ hg_19
  have hyp_22 : qc_22.toInt ≤ (m_qa_22 : Nat) ∧ m_qa_22 ≤ 1048576 := by (try simp only at hr_23); omega
  have hy_28 := jYb.own hy_24 hbO_22 hb_222 hN_22 (by decide) (fun _ => ⟨_, _, _, hh_22.at 0 rfl, hh_22.at 1 rfl, hgq_22_0, hyp_22⟩)
  have hh_29 := hh_22.addI (jYb.ie hy_28)
  clear hh_22
  try simp only at hr_23
  obtain ⟨hr_23_0, hr_23_1, hr_23_2, hr_23_3, hr_23_4⟩ := hr_23
  refine lv_aload_n hx hb dX11_position_36 rfl (lv_at hl 0 rfl) ?_
  refine j7_read hx hb hown hK (C := RX11) (T := TX11) (N := 19) rfl hly_13_4 hlk_35 (hh_29.at 3 rfl) dX11_position_37 ?_
  refine lv_iload_n hx hb dX11_position_40 rfl (lv_at hl 2 rfl) ?_
  refine lv_aload_n hx hb dX11_position_41 rfl (lv_at hl 1 rfl) ?_
  obtain ⟨v_30, hv_30, hh_31⟩ := hh_29.pin (C := RX1) (T := TX1) (N := 17) hB3 rfl (by decide) hg_26 (i := 15) (by decide) rfl
  clear hh_29
  obtain ⟨lineStart_32, rfl⟩ := hv_30
  refine j7_read hx hb hown hK (C := RX1) (T := TX1) (N := 17) rfl hly_3_15 hlk_540 (hh_31.at 0 rfl) dX11_position_42 ?_
  refine lv_isub hx hb dX11_position_45 ?_
  refine lv_topi (fun z_33 ez_33 => ?_)
  have hsz_34 := hh_31.2.2.2.2.2.1
  have htt_34 := hh_31.2.2.2.2.2.2.1
  refine W.room (fun hrc_34 hrs_34 => ?_)
  refine va_callv (A0 := jA base) (H0 := s.heap) (va_runV (As := [.int z_33]) (rest := []) ⟨hx, hb, hml, hown, hts⟩ (uX0_number l dC dI ca base B hB hAp hB2 hB196 G_22 H_22 bo z_33 qc_22 qa_22 m_qa_22 LC LS) (cwV 1 hts (jgV (jWr_26 _ (List.mem_of_getElem? (i := 16) rfl)) (jWr_24 _ (List.mem_of_getElem? (i := 16) rfl)) (jWr_24 _ (List.mem_of_getElem? (i := 17) rfl)) (jWr_1 _ (List.mem_of_getElem? (i := 14) rfl)) (jWr_24 _ (List.mem_of_getElem? (i := 18) rfl))) rfl rfl rfl (by decide +kernel) ⟨by rw [← hR]; exact Nat.le_of_ble_eq_true rfl, by rw [← hR]; exact Nat.le_of_ble_eq_true rfl⟩) ⟨fun a U g mk q => by obtain ⟨q0, q1, q2, qK, q10, q11, q12, q13⟩ := q; exact ⟨q0, q1, q2, jG.calling g mk a qK, q10, q11, q12, q13⟩, hh_31.recv (C := RX0) (T := TX0) (N := 2) hB2 rfl (by decide) hg_27 hK, fun U hU hW => ⟨rfl, hU, hh_31.2.1, hG.step hW hU hh_31.1, hg_27, hgq_22_0, (hh_31.2.2.1.sub (L1 := [(bo, 2, 1, .int qc_22), (bo, 2, 0, .ref qa_22)]) [1, 2] rfl), (by omega), (by omega), by first | omega | (refine ⟨?_, ?_, ?_, ?_, ?_⟩ <;> (first | omega | rfl | assumption | decide | exact Or.inl rfl | exact Or.inr rfl | (simp only; omega)))⟩⟩ rfl rfl hl.1 rfl (lv_room (Nat.le_of_ble_eq_true rfl)) dX11_position_46 ⟨by rw [hRc]; omega, by rw [hRs]; omega⟩) hh_31.1 (fun q _ h => h) (fun q h => h) (fun u_34 t_34 H_34 locs_34 ht_34 hvm_34 hr_35 hb_34 hz_34 hk_34 hS_34 => ?_)
  obtain ⟨qc_34, qa_34, m_qa_34, G_34⟩ := u_34
  rw [ht_34] at hb_34
  simp only at hb_34
  obtain ⟨⟨hb_341, hb_342, hb_343, hb_344, hb_345, hb_346⟩, hgq_34_0, hN_34, hbO_34⟩ := hb_34
  have hy_36 := hh_31.iv 0 rfl
  have hh_34 : jSt (dC, dI) B base G0 G_34 EX11_position s.heap ((((0 + ((m_qa_3 - n_pa) / 16)) + ((m_qa_14 - m_qa_3) / 16)) + ((m_qa_22 - m_qa_14) / 16)) + ((m_qa_34 - m_qa_22) / 16)) ((((0 + (2 * (m_qa_3 - n_pa))) + (2 * (m_qa_14 - m_qa_3))) + (2 * (m_qa_22 - m_qa_14))) + (2 * (m_qa_34 - m_qa_22))) [(bo, 2, 1, .int qc_34), (bo, 2, 0, .ref qa_34), (r1, 3, 15, .int lineStart_32), (r1, 3, 14, .int line_13), (r0, 13, 4, .ref bo)] [] [] H_34 locs_34 := (hh_31.callG hb_341 hb_342 hb_343 hb_344 hb_345 hS_34 rfl (L1 := [(r1, 3, 15, .int lineStart_32), (r1, 3, 14, .int line_13), (r0, 13, 4, .ref bo)]) [0, 3, 4] rfl rfl (M1 := []) [] rfl rfl (I1 := []) [] rfl rfl).more hb_346
  have hNn_34 : (jNk [0, 1, 2, 3, 4, 5, 6, 7, 8, 9, 10, 11, 12, 13, 14, 15, 16]) G0 G_34 := (hNn_22).tr hN_34
  have hg_37 := hb_342 _ _ hg_25
  have hg_38 := hb_342 _ _ hg_26
  have hg_39 := hb_342 _ _ hg_27
  have hyp_34 : qc_34.toInt ≤ (m_qa_34 : Nat) ∧ m_qa_34 ≤ 1048576 := by (try simp only at hr_35); omega
  have hy_40 := jYb.own hy_36 hbO_34 hb_342 hN_34 (by decide) (fun _ => ⟨_, _, _, hh_34.at 0 rfl, hh_34.at 1 rfl, hgq_34_0, hyp_34⟩)
  have hh_41 := hh_34.addI (jYb.ie hy_40)
  clear hh_34
  try simp only at hr_35
  obtain ⟨hr_35_0, hr_35_1, hr_35_2, hr_35_3, hr_35_4⟩ := hr_35
  refine lv_aload_n hx hb dX11_position_49 rfl (lv_at hl 0 rfl) ?_
  refine j7_read hx hb hown hK (C := RX11) (T := TX11) (N := 19) rfl hly_13_4 hlk_35 (hh_41.at 4 rfl) dX11_position_50 ?_
  refine lv_bipush (v := 125) hx hb dX11_position_53 (by decide) ?_
  have hsz_42 := hh_41.2.2.2.2.2.1
  have htt_42 := hh_41.2.2.2.2.2.2.1
  refine W.room (fun hrc_42 hrs_42 => ?_)
  refine va_callv (A0 := jA base) (H0 := s.heap) (va_runV (As := [.int 125]) (rest := []) ⟨hx, hb, hml, hown, hts⟩ (uX0_put l dC dI ca base B hB hAp hB2 hB196 G_34 H_34 bo 125 qc_34 qa_34 m_qa_34 LC LS) (cwV 1 hts (jgV (jWr_15 _ (List.mem_of_getElem? (i := 23) rfl)) (jWr_16 _ (List.mem_of_getElem? (i := 0) rfl)) (jWr_16 _ (List.mem_of_getElem? (i := 1) rfl)) (jWr_1 _ (List.mem_of_getElem? (i := 14) rfl)) (jWr_16 _ (List.mem_of_getElem? (i := 2) rfl))) rfl rfl rfl (by decide +kernel) ⟨by rw [← hR]; exact Nat.le_of_ble_eq_true rfl, by rw [← hR]; exact Nat.le_of_ble_eq_true rfl⟩) ⟨fun a U g mk q => by obtain ⟨q0, q1, q2, qK, q10, q11, q12, q13⟩ := q; exact ⟨q0, q1, q2, jG.calling g mk a qK, q10, q11, q12, q13⟩, hh_41.recv (C := RX0) (T := TX0) (N := 2) hB2 rfl (by decide) hg_39 hK, fun U hU hW => ⟨rfl, hU, hh_41.2.1, hG.step hW hU hh_41.1, hg_39, hgq_34_0, (hh_41.2.2.1.sub (L1 := [(bo, 2, 1, .int qc_34), (bo, 2, 0, .ref qa_34)]) [0, 1] rfl), (by omega), (by omega), by first | omega | (refine ⟨?_, ?_, ?_, ?_, ?_⟩ <;> (first | omega | rfl | assumption | decide | exact Or.inl rfl | exact Or.inr rfl | (simp only; omega)))⟩⟩ rfl rfl hl.1 rfl (lv_room (Nat.le_of_ble_eq_true rfl)) dX11_position_55 ⟨by rw [hRc]; omega, by rw [hRs]; omega⟩) hh_41.1 (fun q _ h => h) (fun q h => h) (fun u_42 t_42 H_42 locs_42 ht_42 hvm_42 hr_43 hb_42 hz_42 hk_42 hS_42 => ?_)
  obtain ⟨qc_42, qa_42, m_qa_42, G_42⟩ := u_42
  rw [ht_42] at hb_42
  simp only at hb_42
  obtain ⟨⟨hb_421, hb_422, hb_423, hb_424, hb_425, hb_426⟩, hgq_42_0, hN_42, hbO_42⟩ := hb_42
  have hy_44 := hh_41.iv 0 rfl
  have hh_42 : jSt (dC, dI) B base G0 G_42 EX11_position s.heap (((((0 + ((m_qa_3 - n_pa) / 16)) + ((m_qa_14 - m_qa_3) / 16)) + ((m_qa_22 - m_qa_14) / 16)) + ((m_qa_34 - m_qa_22) / 16)) + ((m_qa_42 - m_qa_34) / 16)) (((((0 + (2 * (m_qa_3 - n_pa))) + (2 * (m_qa_14 - m_qa_3))) + (2 * (m_qa_22 - m_qa_14))) + (2 * (m_qa_34 - m_qa_22))) + (2 * (m_qa_42 - m_qa_34))) [(bo, 2, 1, .int qc_42), (bo, 2, 0, .ref qa_42), (r1, 3, 15, .int lineStart_32), (r1, 3, 14, .int line_13), (r0, 13, 4, .ref bo)] [] [] H_42 locs_42 := (hh_41.callG hb_421 hb_422 hb_423 hb_424 hb_425 hS_42 rfl (L1 := [(r1, 3, 15, .int lineStart_32), (r1, 3, 14, .int line_13), (r0, 13, 4, .ref bo)]) [2, 3, 4] rfl rfl (M1 := []) [] rfl rfl (I1 := []) [] rfl rfl).more hb_426
  have hNn_42 : (jNk [0, 1, 2, 3, 4, 5, 6, 7, 8, 9, 10, 11, 12, 13, 14, 15, 16]) G0 G_42 := (hNn_34).tr hN_42
  have hg_45 := hb_422 _ _ hg_37
  have hg_46 := hb_422 _ _ hg_38
  have hg_47 := hb_422 _ _ hg_39
  have hyp_42 : qc_42.toInt ≤ (m_qa_42 : Nat) ∧ m_qa_42 ≤ 1048576 := by (try simp only at hr_43); omega
  have hy_48 := jYb.own hy_44 hbO_42 hb_422 hN_42 (by decide) (fun _ => ⟨_, _, _, hh_42.at 0 rfl, hh_42.at 1 rfl, hgq_42_0, hyp_42⟩)
  have hh_49 := hh_42.addI (jYb.ie hy_48)
  clear hh_42
  try simp only at hr_43
  obtain ⟨hr_43_0, hr_43_1, hr_43_2, hr_43_3, hr_43_4⟩ := hr_43
  have hsz_50 := hh_49.2.2.2.2.2.1
  have htt_50 := hh_49.2.2.2.2.2.2.1
  refine W.room (fun hrc_50 hrs_50 => ?_)
  refine W.widen (k := LC - s.heap.size) (n := LS - jTot s.heap) (by omega) (by omega) ?_
  rw [hQ]
  exact W.vret hx hb hr (fun t ht hW => ⟨⟨(qc_42, qa_42, m_qa_42, G_42), rfl, by (try dsimp only); exact ⟨(by first | omega | rfl | assumption | fail), (by first | omega | rfl | assumption | fail), (by first | omega | rfl | assumption | fail), (by first | omega | rfl | assumption | fail), (by first | assumption | fail | omega)⟩, ⟨hh_49.ra (by first | omega | (simp only; omega)) (by first | omega | (simp only; omega)) (M1 := [(bo, 2, 1, .int qc_42), (bo, 2, 0, .ref qa_42)]) [0, 1] rfl ht, hgq_42_0, hNn_42, by rw [ht]; exact hh_49.2.2.2.2.2.2.2.2.sub (L1 := [(jFy, jYb dC dI G_42)]) [0] rfl⟩⟩, by rw [ht]; try exact hh_49.1.1, fun q h9 hq => by rw [ht]; try exact hh_49.1.2.1 q h9 hq⟩) hh_49.1.2.2 dX11_position_58
set_option maxHeartbeats 4000000 in
set_option maxRecDepth 20000 in
theorem uX11_diagnostic (l : Launch) (dC : Nat → ClassId) (dI : Nat → Nat → Nat) (ca : Nat → ClassId) (base : Nat) (B : jF) (hB : jBok B) (hAp : jAp (dC, dI)) (hB2 : ∀ n G a H, B 2 n G a H ↔ jOb (dC, dI) 2 2 (F2 n G) a H) (hB3 : ∀ n G a H, B 3 n G a H ↔ jOb (dC, dI) 3 17 (F3 n G) a H) (hB11 : ∀ n G a H, B 11 n G a H ↔ jOb (dC, dI) 11 9 (F11 n G) a H) (hB13 : ∀ n G a H, B 13 n G a H ↔ jOb (dC, dI) 13 19 (F13 n G) a H) (hB101 : ∀ n G a H, B 101 n G a H ↔ jAr (dC, dI) (ca 1) (fun j z => True) n a H) (hB171 : ∀ n G a H, B 171 n G a H ↔ jAr (dC, dI) (ca 1) (fun j z => 0 ≤ z.toInt ∧ z.toInt ≤ 1500) n a H) (hB172 : ∀ n G a H, B 172 n G a H ↔ jAr (dC, dI) (ca 1) (fun j z => 0 ≤ z.toInt ∧ z.toInt ≤ 1500) n a H) (hB196 : ∀ n G a H, B 196 n G a H ↔ jAr (dC, dI) (ca 0) (fun j z => jBf j z) n a H) (hB210 : ∀ n G a H, B 210 n G a H ↔ jAq (dC, dI) (ca 6) (jQn 11 0) n G a H) (G0 : jT) (H0 : Heap) (r0 : Nat) (r1 : Nat) (a2 : Int32) (bo : Nat) (pc : Int32) (pa : Nat) (n_pa : Nat) (bh : Nat) (fq : Nat → Option Nat) (LC LS : Nat) : Met l yX11_diagnostic (jw yX11_diagnostic cX11_diagnostic 3 none) ({ frames := 6, cells := LC - H0.size, slots := LS - jTot H0, locals := 185 }) (va_Pc [.ref r0, .ref r1, .int a2] (fun U => U.heap = H0 ∧ jX B base G0 [] H0 ∧ jG dC dI ca base U ∧ jK2 dC dI ca U ∧ G0 r1 = some (3, 0) ∧ G0 r0 = some (13, 0) ∧ G0 bo = some (2, 0) ∧ G0 pa = some (196, n_pa) ∧ G0 bh = some (210, 40) ∧ jP (dC, dI) G0 H0 [(r0, 13, 4, .ref bo), (bo, 2, 1, .int pc), (bo, 2, 0, .ref pa), (r1, 3, 9, .ref bh)] ∧ jIs (dC, dI) G0 H0 [(jFy, jYb dC dI G0), ([(210, 0)], jQc dC dI (ca 6) bh 40 fq)] ∧ H0.size + (1048576 - n_pa) / 16 + 1 ≤ LC ∧ jTot H0 + 2 * (1048576 - n_pa) ≤ LS ∧ 0 ≤ pc.toInt ∧ pc.toInt ≤ n_pa ∧ 16 ≤ n_pa ∧ n_pa ≤ 1048576 ∧ jPw n_pa ∧ 0 ≤ a2.toInt ∧ a2.toInt ≤ 39 ∧ fq (a2.toInt).toNat ≠ none)) (va_Qv (S := Int32 × Nat × Nat × jT) (fun u => 0 ≤ u.1.toInt ∧ u.1.toInt ≤ u.2.2.1 ∧ n_pa ≤ u.2.2.1 ∧ u.2.2.1 ≤ 1048576 ∧ jPw u.2.2.1) (fun u t => jRa (dC, dI) B base G0 u.2.2.2 EX11_diagnostic H0 ((u.2.2.1 - n_pa) / 16) (2 * (u.2.2.1 - n_pa)) [(bo, 2, 1, .int u.1), (bo, 2, 0, .ref u.2.1)] t.heap ∧ u.2.2.2 u.2.1 = some (196, u.2.2.1) ∧ (jNk [0, 1, 2, 3, 4, 5, 6, 7, 8, 9, 10, 11, 12, 13, 14, 15, 16]) G0 u.2.2.2 ∧ jIs (dC, dI) u.2.2.2 t.heap [(jFy, jYb dC dI u.2.2.2)]) (jA base)) (LC - H0.size) (LS - jTot H0) (jA base) := by
  refine Met.ofW (cc := cX11_diagnostic) (maxL := 3) (ret := none) (by decide) rfl ?_
  intro p e s m args below meth c s₁ Bd hml hv
  obtain ⟨rfl, hH0, hX, hG, hK2, hg_r1, hg_r0, hg_bo, hg_pa, hg_bh, hP0, hI0, hLC0, hLS0, hp0, hp1, hp2, hp3, hp4, hp5, hp6, hp7⟩ := hv
  have hK := hG.1
  have hx := Bd.exec
  have hb := Bd.bytes
  have hr := Bd.returns
  have hts := atoms_spec (ws := (jw yX11_diagnostic cX11_diagnostic 3 none)) Bd.pre
  have htw : ∀ w ∈ jWl, w.before _ s = true := fun w h => hts w (List.mem_cons_of_mem _ h)
  have hown : s.vm.findClass RX11 = some m.cls := findClass_of_methodNamed Bd.named
  have hlocks := Bd.notSynchronized
  obtain ⟨Q, hQ⟩ : ∃ Q, Q = MQ below (va_Qv (S := Int32 × Nat × Nat × jT) (fun u => 0 ≤ u.1.toInt ∧ u.1.toInt ≤ u.2.2.1 ∧ n_pa ≤ u.2.2.1 ∧ u.2.2.1 ≤ 1048576 ∧ jPw u.2.2.1) (fun u t => jRa (dC, dI) B base G0 u.2.2.2 EX11_diagnostic H0 ((u.2.2.1 - n_pa) / 16) (2 * (u.2.2.1 - n_pa)) [(bo, 2, 1, .int u.1), (bo, 2, 0, .ref u.2.1)] t.heap ∧ u.2.2.2 u.2.1 = some (196, u.2.2.1) ∧ (jNk [0, 1, 2, 3, 4, 5, 6, 7, 8, 9, 10, 11, 12, 13, 14, 15, 16]) G0 u.2.2.2 ∧ jIs (dC, dI) u.2.2.2 t.heap [(jFy, jYb dC dI u.2.2.2)]) (jA base)) ([.ref r0, .ref r1, .int a2] : List Value).toArray s (LC - H0.size) (LS - jTot H0) (jA base) := ⟨_, rfl⟩
  rw [← hQ]
  have hl := lv_entry ([.ref r0, .ref r1, .int a2]) (n := 3) (Nat.le_of_ble_eq_true rfl)
  rw [lg_entry_eq]
  generalize (lg_sl ([.ref r0, .ref r1, .int a2]) ++ List.replicate (3 - (lg_sl ([.ref r0, .ref r1, .int a2])).length) Slot.unset).toArray = ls at hl ⊢
  have hl : lv_has ls 3 [(0, .ref r0), (1, .ref r1), (2, .int a2)] := hl
  generalize hR : (headSpec (jw yX11_diagnostic cX11_diagnostic 3 none) ({ frames := 6, cells := LC - H0.size, slots := LS - jTot H0, locals := 185 })).room = R
  subst hH0
  have hh : jSt (dC, dI) B base G0 G0 EX11_diagnostic s.heap 0 0 [(r0, 13, 4, .ref bo), (bo, 2, 1, .int pc), (bo, 2, 0, .ref pa), (r1, 3, 9, .ref bh)] [] [(jFy, jYb dC dI G0), ([(210, 0)], jQc dC dI (ca 6) bh 40 fq)] s.heap [] := jSt.start hX hP0 jMc.nil hI0
  clear hX hP0
  have hk0 : (0 : Int32).toInt = 0 := by decide
  have hk1 : (1 : Int32).toInt = 1 := by decide
  have hly_3_5 := htw (u_lay RX1 TX1 5) (jWc_wsX10 _ (u_in_lay (by decide)))
  have hly_3_6 := htw (u_lay RX1 TX1 6) (jWc_wsX10 _ (u_in_lay (by decide)))
  have hly_3_9 := htw (u_lay RX1 TX1 9) (jWc_wsX10 _ (u_in_lay (by decide)))
  have hly_11_2 := htw (u_lay RX9 TX9 2) (jWc_wsX90 _ (u_in_lay (by decide)))
  have hly_13_4 := htw (u_lay RX11 TX11 4) (jWc_wsX110 _ (u_in_lay (by decide)))
  have hlk_35 := (htw (.fieldLink RX11 35 "ProofServer" "body" "LProofServer$Bytes;") (jWr_2 _ (List.mem_of_getElem? (i := 1) rfl)))
  obtain ⟨str518, rstr518, hstr5180⟩ := hG.str (o := RX11) (k := 518) (tx := "{\"range\":{\"start\":") (List.mem_of_getElem? (i := 1224) (by decide +kernel))
  have hstr518 : jStr base str518 18 s s.heap := hstr5180
  have hlk_182 := (htw (.fieldLink RX11 182 "ProofServer$Document" "starts" "[I") (jWr_40 _ (List.mem_of_getElem? (i := 13) rfl)))
  obtain ⟨str522, rstr522, hstr5220⟩ := hG.str (o := RX11) (k := 522) (tx := ",\"end\":") (List.mem_of_getElem? (i := 1235) (by decide +kernel))
  have hstr522 : jStr base str522 7 s s.heap := hstr5220
  have hlk_185 := (htw (.fieldLink RX11 185 "ProofServer$Document" "ends" "[I") (jWr_40 _ (List.mem_of_getElem? (i := 14) rfl)))
  obtain ⟨str524, rstr524, hstr5240⟩ := hG.str (o := RX11) (k := 524) (tx := "},\"severity\":1,\"message\":\"") (List.mem_of_getElem? (i := 1236) (by decide +kernel))
  have hstr524 : jStr base str524 26 s s.heap := hstr5240
  have hlk_178 := (htw (.fieldLink RX11 178 "ProofServer$Document" "behind" "[LProofServer$State;") (jWr_39 _ (List.mem_of_getElem? (i := 23) rfl)))
  have hlk_188 := (htw (.fieldLink RX11 188 "ProofServer$State" "fault" "I") (jWr_40 _ (List.mem_of_getElem? (i := 0) rfl)))
  obtain ⟨str529, rstr529, hstr5290⟩ := hG.str (o := RX11) (k := 529) (tx := "\"}") (List.mem_of_getElem? (i := 1249) (by decide +kernel))
  have hstr529 : jStr base str529 2 s s.heap := hstr5290
  have hrg_a2 := jb_rng a2
  have hbs : base ≤ s.heap.size := Nat.le_of_lt (Nat.lt_of_le_of_lt (hh.ab hg_r0).1 (hh.ab hg_r0).2)
  have hbs : base ≤ s.heap.size := Nat.le_of_lt (Nat.lt_of_le_of_lt (hh.ab hg_r0).1 (hh.ab hg_r0).2)
  have hRc : R.cells = LC - s.heap.size := by rw [← hR]; rfl
  have hRs : R.slots = LS - jTot s.heap := by rw [← hR]; rfl
  refine lv_aload_n hx hb dX11_diagnostic_0 rfl (lv_at hl 0 rfl) ?_
  refine j7_read hx hb hown hK (C := RX11) (T := TX11) (N := 19) rfl hly_13_4 hlk_35 (hh.at 0 rfl) dX11_diagnostic_1 ?_
  refine j_ldcSw hx hb hown rstr518 dX11_diagnostic_4 ?_
  have hsz_1 := hh.2.2.2.2.2.1
  have htt_1 := hh.2.2.2.2.2.2.1
  refine W.room (fun hrc_1 hrs_1 => ?_)
  refine va_callv (A0 := jA base) (H0 := s.heap) (va_runV (As := [.ref str518]) (rest := []) ⟨hx, hb, hml, hown, hts⟩ (uX0_text l dC dI ca base B hB hAp hB2 hB196 G0 s.heap bo str518 18 pc pa n_pa LC LS) (cwV 1 hts (jgV (jWr_26 _ (List.mem_of_getElem? (i := 11) rfl)) (jWr_25 _ (List.mem_of_getElem? (i := 22) rfl)) (jWr_25 _ (List.mem_of_getElem? (i := 23) rfl)) (jWr_1 _ (List.mem_of_getElem? (i := 14) rfl)) (jWr_26 _ (List.mem_of_getElem? (i := 0) rfl))) rfl rfl rfl (by decide +kernel) ⟨by rw [← hR]; exact Nat.le_of_ble_eq_true rfl, by rw [← hR]; exact Nat.le_of_ble_eq_true rfl⟩) ⟨fun a U g mk q => by obtain ⟨q0, q1, q2, qK, q10, q11, q12, q13, q14⟩ := q; exact ⟨q0, q1, q2, jG.calling g mk a qK, (q10.moved (Vm.Alike.refl U.vm)), q11, q12, q13, q14⟩, hh.recv (C := RX0) (T := TX0) (N := 2) hB2 rfl (by decide) hg_bo hK, fun U hU hW => ⟨rfl, hU, hh.2.1, hG.step hW hU hh.1, (hstr518.moved hW.alike).kept hh.1.2.1, hg_bo, hg_pa, (hh.2.2.1.sub (L1 := [(bo, 2, 1, .int pc), (bo, 2, 0, .ref pa)]) [1, 2] rfl), (by omega), (by omega), by first | omega | (refine ⟨?_, ?_, ?_, ?_, ?_, ?_⟩ <;> (first | omega | rfl | assumption | decide | exact Or.inl rfl | exact Or.inr rfl | (simp only; omega)))⟩⟩ rfl rfl hl.1 rfl (lv_room (Nat.le_of_ble_eq_true rfl)) dX11_diagnostic_7 ⟨by rw [hRc]; omega, by rw [hRs]; omega⟩) hh.1 (fun q _ h => h) (fun q h => h) (fun u_1 t_1 H_1 locs_1 ht_1 hvm_1 hr_2 hb_1 hz_1 hk_1 hS_1 => ?_)
  obtain ⟨qc_1, qa_1, m_qa_1, G_1⟩ := u_1
  rw [ht_1] at hb_1
  simp only at hb_1
  obtain ⟨⟨hb_11, hb_12, hb_13, hb_14, hb_15, hb_16⟩, hgq_1_0, hN_1, hbO_1⟩ := hb_1
  have hy_3 := hh.iv 0 rfl
  have hh_1 : jSt (dC, dI) B base G0 G_1 EX11_diagnostic s.heap (0 + ((m_qa_1 - n_pa) / 16)) (0 + (2 * (m_qa_1 - n_pa))) [(bo, 2, 1, .int qc_1), (bo, 2, 0, .ref qa_1), (r0, 13, 4, .ref bo), (r1, 3, 9, .ref bh)] [] [([(210, 0)], jQc dC dI (ca 6) bh 40 fq)] H_1 locs_1 := (hh.callG hb_11 hb_12 hb_13 hb_14 hb_15 hS_1 rfl (L1 := [(r0, 13, 4, .ref bo), (r1, 3, 9, .ref bh)]) [0, 3] rfl rfl (M1 := []) [] rfl rfl (I1 := [([(210, 0)], jQc dC dI (ca 6) bh 40 fq)]) [1] rfl rfl).more hb_16
  have hNn_1 : (jNk [0, 1, 2, 3, 4, 5, 6, 7, 8, 9, 10, 11, 12, 13, 14, 15, 16]) G0 G_1 := (jNk.rf).tr hN_1
  have hg_4 := hb_12 _ _ hg_r0
  have hg_5 := hb_12 _ _ hg_r1
  have hg_6 := hb_12 _ _ hg_bo
  have hg_7 := hb_12 _ _ hg_bh
  have hyp_1 : qc_1.toInt ≤ (m_qa_1 : Nat) ∧ m_qa_1 ≤ 1048576 := by (try simp only at hr_2); omega
  have hy_9 := jYb.own hy_3 hbO_1 hb_12 hN_1 (by decide) (fun _ => ⟨_, _, _, hh_1.at 0 rfl, hh_1.at 1 rfl, hgq_1_0, hyp_1⟩)
  have hh_10 := hh_1.addI (jYb.ie hy_9)
  clear hh_1
  try simp only at hr_2
  obtain ⟨hr_2_0, hr_2_1, hr_2_2, hr_2_3, hr_2_4⟩ := hr_2
  refine lv_aload_n hx hb dX11_diagnostic_10 rfl (lv_at hl 0 rfl) ?_
  refine lv_aload_n hx hb dX11_diagnostic_11 rfl (lv_at hl 1 rfl) ?_
  refine lv_aload_n hx hb dX11_diagnostic_12 rfl (lv_at hl 1 rfl) ?_
  obtain ⟨v_11, hv_11, hh_12⟩ := hh_10.pin (C := RX1) (T := TX1) (N := 17) hB3 rfl (by decide) hg_5 (i := 5) (by decide) rfl
  clear hh_10
  obtain ⟨starts_13, rfl, hg_starts_13⟩ := hv_11
  refine j7_read hx hb hown hK (C := RX1) (T := TX1) (N := 17) rfl hly_3_5 hlk_182 (hh_12.at 0 rfl) dX11_diagnostic_13 ?_
  refine lv_iload_n hx hb dX11_diagnostic_16 rfl (lv_at hl 2 rfl) ?_
  refine j7_iald hx hb hK hh_12 hB171 1 rfl (by decide) hg_starts_13 (x := a2.toInt) (rfl) (by omega) dX11_diagnostic_17 (fun z_14 (hz_14 : 0 ≤ z_14.toInt ∧ z_14.toInt ≤ 1500) => ?_)
  have hsz_15 := hh_12.2.2.2.2.2.1
  have htt_15 := hh_12.2.2.2.2.2.2.1
  refine W.room (fun hrc_15 hrs_15 => ?_)
  refine va_callv (A0 := jA base) (H0 := s.heap) (va_runV (As := [.ref r1, .int z_14]) (rest := []) ⟨hx, hb, hml, hown, hts⟩ (uX11_position l dC dI ca base B hB hAp hB2 hB3 hB13 hB101 hB196 G_1 H_1 r0 r1 z_14 bo qc_1 qa_1 m_qa_1 LC LS) (cwV 2 hts (jgV (jWr_40 _ (List.mem_of_getElem? (i := 15) rfl)) (jWr_40 _ (List.mem_of_getElem? (i := 16) rfl)) (jWr_40 _ (List.mem_of_getElem? (i := 17) rfl)) (jWr_1 _ (List.mem_of_getElem? (i := 2) rfl)) (jWr_40 _ (List.mem_of_getElem? (i := 18) rfl))) rfl rfl rfl (by decide +kernel) ⟨by rw [← hR]; exact Nat.le_of_ble_eq_true rfl, by rw [← hR]; exact Nat.le_of_ble_eq_true rfl⟩) ⟨fun a U g mk q => by obtain ⟨q0, q1, q2, qK, q10, q11, q12, q13, q14, q15, q16⟩ := q; exact ⟨q0, q1, q2, jG.calling g mk a qK, q10, q11, q12, q13, q14, q15, q16⟩, hh_12.recv (C := RX11) (T := TX11) (N := 19) hB13 rfl (by decide) hg_4 hK, fun U hU hW => ⟨rfl, hU, hh_12.2.1, hG.step hW hU hh_12.1, hg_5, hg_4, hg_6, hgq_1_0, (hh_12.2.2.1.sub (L1 := [(r0, 13, 4, .ref bo), (bo, 2, 1, .int qc_1), (bo, 2, 0, .ref qa_1)]) [3, 1, 2] rfl), (hh_12.2.2.2.2.2.2.2.2.sub (L1 := [(jFy, jYb dC dI G_1)]) [0] rfl), (by omega), (by omega), by first | omega | (refine ⟨?_, ?_, ?_, ?_, ?_⟩ <;> (first | omega | rfl | assumption | decide | exact Or.inl rfl | exact Or.inr rfl | (simp only; omega)))⟩⟩ rfl rfl hl.1 rfl (lv_room (Nat.le_of_ble_eq_true rfl)) dX11_diagnostic_18 ⟨by rw [hRc]; omega, by rw [hRs]; omega⟩) hh_12.1 (fun q _ h => h) (fun q h => h) (fun u_15 t_15 H_15 locs_15 ht_15 hvm_15 hr_16 hb_15 hz_15 hk_15 hS_15 => ?_)
  obtain ⟨qc_15, qa_15, m_qa_15, G_15⟩ := u_15
  rw [ht_15] at hb_15
  simp only at hb_15
  obtain ⟨⟨hb_151, hb_152, hb_153, hb_154, hb_155, hb_156⟩, hgq_15_0, hN_15, hbE_15⟩ := hb_15
  have hh_15 : jSt (dC, dI) B base G0 G_15 EX11_diagnostic s.heap ((0 + ((m_qa_1 - n_pa) / 16)) + ((m_qa_15 - m_qa_1) / 16)) ((0 + (2 * (m_qa_1 - n_pa))) + (2 * (m_qa_15 - m_qa_1))) [(bo, 2, 1, .int qc_15), (bo, 2, 0, .ref qa_15), (r1, 3, 5, .ref starts_13), (r0, 13, 4, .ref bo), (r1, 3, 9, .ref bh)] [] [([(210, 0)], jQc dC dI (ca 6) bh 40 fq)] H_15 locs_15 := (hh_12.callG hb_151 hb_152 hb_153 hb_154 hb_155 hS_15 rfl (L1 := [(r1, 3, 5, .ref starts_13), (r0, 13, 4, .ref bo), (r1, 3, 9, .ref bh)]) [0, 3, 4] rfl rfl (M1 := []) [] rfl rfl (I1 := [([(210, 0)], jQc dC dI (ca 6) bh 40 fq)]) [1] rfl rfl).more hb_156
  have hNn_15 : (jNk [0, 1, 2, 3, 4, 5, 6, 7, 8, 9, 10, 11, 12, 13, 14, 15, 16]) G0 G_15 := (hNn_1).tr hN_15
  have hg_17 := hb_152 _ _ hg_4
  have hg_18 := hb_152 _ _ hg_5
  have hg_19 := hb_152 _ _ hg_starts_13
  have hg_20 := hb_152 _ _ hg_6
  have hg_21 := hb_152 _ _ hg_7
  have hh_23 := hh_15.addIs hbE_15
  try simp only at hr_16
  obtain ⟨hr_16_0, hr_16_1, hr_16_2, hr_16_3, hr_16_4⟩ := hr_16
  refine lv_aload_n hx hb dX11_diagnostic_21 rfl (lv_at hl 0 rfl) ?_
  refine j7_read hx hb hown hK (C := RX11) (T := TX11) (N := 19) rfl hly_13_4 hlk_35 (hh_23.at 3 rfl) dX11_diagnostic_22 ?_
  refine j_ldcSw hx hb hown rstr522 dX11_diagnostic_25 ?_
  have hsz_24 := hh_23.2.2.2.2.2.1
  have htt_24 := hh_23.2.2.2.2.2.2.1
  refine W.room (fun hrc_24 hrs_24 => ?_)
  refine va_callv (A0 := jA base) (H0 := s.heap) (va_runV (As := [.ref str522]) (rest := []) ⟨hx, hb, hml, hown, hts⟩ (uX0_text l dC dI ca base B hB hAp hB2 hB196 G_15 H_15 bo str522 7 qc_15 qa_15 m_qa_15 LC LS) (cwV 1 hts (jgV (jWr_26 _ (List.mem_of_getElem? (i := 11) rfl)) (jWr_25 _ (List.mem_of_getElem? (i := 22) rfl)) (jWr_25 _ (List.mem_of_getElem? (i := 23) rfl)) (jWr_1 _ (List.mem_of_getElem? (i := 14) rfl)) (jWr_26 _ (List.mem_of_getElem? (i := 0) rfl))) rfl rfl rfl (by decide +kernel) ⟨by rw [← hR]; exact Nat.le_of_ble_eq_true rfl, by rw [← hR]; exact Nat.le_of_ble_eq_true rfl⟩) ⟨fun a U g mk q => by obtain ⟨q0, q1, q2, qK, q10, q11, q12, q13, q14⟩ := q; exact ⟨q0, q1, q2, jG.calling g mk a qK, (q10.moved (Vm.Alike.refl U.vm)), q11, q12, q13, q14⟩, hh_23.recv (C := RX0) (T := TX0) (N := 2) hB2 rfl (by decide) hg_20 hK, fun U hU hW => ⟨rfl, hU, hh_23.2.1, hG.step hW hU hh_23.1, (hstr522.moved hW.alike).kept hh_23.1.2.1, hg_20, hgq_15_0, (hh_23.2.2.1.sub (L1 := [(bo, 2, 1, .int qc_15), (bo, 2, 0, .ref qa_15)]) [0, 1] rfl), (by omega), (by omega), by first | omega | (refine ⟨?_, ?_, ?_, ?_, ?_, ?_⟩ <;> (first | omega | rfl | assumption | decide | exact Or.inl rfl | exact Or.inr rfl | (simp only; omega)))⟩⟩ rfl rfl hl.1 rfl (lv_room (Nat.le_of_ble_eq_true rfl)) dX11_diagnostic_28 ⟨by rw [hRc]; omega, by rw [hRs]; omega⟩) hh_23.1 (fun q _ h => h) (fun q h => h) (fun u_24 t_24 H_24 locs_24 ht_24 hvm_24 hr_25 hb_24 hz_24 hk_24 hS_24 => ?_)
  obtain ⟨qc_24, qa_24, m_qa_24, G_24⟩ := u_24
  rw [ht_24] at hb_24
  simp only at hb_24
  obtain ⟨⟨hb_241, hb_242, hb_243, hb_244, hb_245, hb_246⟩, hgq_24_0, hN_24, hbO_24⟩ := hb_24
  have hy_26 := hh_23.iv 0 rfl
  have hh_24 : jSt (dC, dI) B base G0 G_24 EX11_diagnostic s.heap (((0 + ((m_qa_1 - n_pa) / 16)) + ((m_qa_15 - m_qa_1) / 16)) + ((m_qa_24 - m_qa_15) / 16)) (((0 + (2 * (m_qa_1 - n_pa))) + (2 * (m_qa_15 - m_qa_1))) + (2 * (m_qa_24 - m_qa_15))) [(bo, 2, 1, .int qc_24), (bo, 2, 0, .ref qa_24), (r1, 3, 5, .ref starts_13), (r0, 13, 4, .ref bo), (r1, 3, 9, .ref bh)] [] [([(210, 0)], jQc dC dI (ca 6) bh 40 fq)] H_24 locs_24 := (hh_23.callG hb_241 hb_242 hb_243 hb_244 hb_245 hS_24 rfl (L1 := [(r1, 3, 5, .ref starts_13), (r0, 13, 4, .ref bo), (r1, 3, 9, .ref bh)]) [2, 3, 4] rfl rfl (M1 := []) [] rfl rfl (I1 := [([(210, 0)], jQc dC dI (ca 6) bh 40 fq)]) [1] rfl rfl).more hb_246
  have hNn_24 : (jNk [0, 1, 2, 3, 4, 5, 6, 7, 8, 9, 10, 11, 12, 13, 14, 15, 16]) G0 G_24 := (hNn_15).tr hN_24
  have hg_27 := hb_242 _ _ hg_17
  have hg_28 := hb_242 _ _ hg_18
  have hg_29 := hb_242 _ _ hg_19
  have hg_30 := hb_242 _ _ hg_20
  have hg_31 := hb_242 _ _ hg_21
  have hyp_24 : qc_24.toInt ≤ (m_qa_24 : Nat) ∧ m_qa_24 ≤ 1048576 := by (try simp only at hr_25); omega
  have hy_33 := jYb.own hy_26 hbO_24 hb_242 hN_24 (by decide) (fun _ => ⟨_, _, _, hh_24.at 0 rfl, hh_24.at 1 rfl, hgq_24_0, hyp_24⟩)
  have hh_34 := hh_24.addI (jYb.ie hy_33)
  clear hh_24
  try simp only at hr_25
  obtain ⟨hr_25_0, hr_25_1, hr_25_2, hr_25_3, hr_25_4⟩ := hr_25
  refine lv_aload_n hx hb dX11_diagnostic_31 rfl (lv_at hl 0 rfl) ?_
  refine lv_aload_n hx hb dX11_diagnostic_32 rfl (lv_at hl 1 rfl) ?_
  refine lv_aload_n hx hb dX11_diagnostic_33 rfl (lv_at hl 1 rfl) ?_
  obtain ⟨v_35, hv_35, hh_36⟩ := hh_34.pin (C := RX1) (T := TX1) (N := 17) hB3 rfl (by decide) hg_28 (i := 6) (by decide) rfl
  clear hh_34
  obtain ⟨ends_37, rfl, hg_ends_37⟩ := hv_35
  refine j7_read hx hb hown hK (C := RX1) (T := TX1) (N := 17) rfl hly_3_6 hlk_185 (hh_36.at 0 rfl) dX11_diagnostic_34 ?_
  refine lv_iload_n hx hb dX11_diagnostic_37 rfl (lv_at hl 2 rfl) ?_
  refine j7_iald hx hb hK hh_36 hB172 1 rfl (by decide) hg_ends_37 (x := a2.toInt) (rfl) (by omega) dX11_diagnostic_38 (fun z_38 (hz_38 : 0 ≤ z_38.toInt ∧ z_38.toInt ≤ 1500) => ?_)
  have hsz_39 := hh_36.2.2.2.2.2.1
  have htt_39 := hh_36.2.2.2.2.2.2.1
  refine W.room (fun hrc_39 hrs_39 => ?_)
  refine va_callv (A0 := jA base) (H0 := s.heap) (va_runV (As := [.ref r1, .int z_38]) (rest := []) ⟨hx, hb, hml, hown, hts⟩ (uX11_position l dC dI ca base B hB hAp hB2 hB3 hB13 hB101 hB196 G_24 H_24 r0 r1 z_38 bo qc_24 qa_24 m_qa_24 LC LS) (cwV 2 hts (jgV (jWr_40 _ (List.mem_of_getElem? (i := 15) rfl)) (jWr_40 _ (List.mem_of_getElem? (i := 16) rfl)) (jWr_40 _ (List.mem_of_getElem? (i := 17) rfl)) (jWr_1 _ (List.mem_of_getElem? (i := 2) rfl)) (jWr_40 _ (List.mem_of_getElem? (i := 18) rfl))) rfl rfl rfl (by decide +kernel) ⟨by rw [← hR]; exact Nat.le_of_ble_eq_true rfl, by rw [← hR]; exact Nat.le_of_ble_eq_true rfl⟩) ⟨fun a U g mk q => by obtain ⟨q0, q1, q2, qK, q10, q11, q12, q13, q14, q15, q16⟩ := q; exact ⟨q0, q1, q2, jG.calling g mk a qK, q10, q11, q12, q13, q14, q15, q16⟩, hh_36.recv (C := RX11) (T := TX11) (N := 19) hB13 rfl (by decide) hg_27 hK, fun U hU hW => ⟨rfl, hU, hh_36.2.1, hG.step hW hU hh_36.1, hg_28, hg_27, hg_30, hgq_24_0, (hh_36.2.2.1.sub (L1 := [(r0, 13, 4, .ref bo), (bo, 2, 1, .int qc_24), (bo, 2, 0, .ref qa_24)]) [4, 1, 2] rfl), (hh_36.2.2.2.2.2.2.2.2.sub (L1 := [(jFy, jYb dC dI G_24)]) [0] rfl), (by omega), (by omega), by first | omega | (refine ⟨?_, ?_, ?_, ?_, ?_⟩ <;> (first | omega | rfl | assumption | decide | exact Or.inl rfl | exact Or.inr rfl | (simp only; omega)))⟩⟩ rfl rfl hl.1 rfl (lv_room (Nat.le_of_ble_eq_true rfl)) dX11_diagnostic_39 ⟨by rw [hRc]; omega, by rw [hRs]; omega⟩) hh_36.1 (fun q _ h => h) (fun q h => h) (fun u_39 t_39 H_39 locs_39 ht_39 hvm_39 hr_40 hb_39 hz_39 hk_39 hS_39 => ?_)
  obtain ⟨qc_39, qa_39, m_qa_39, G_39⟩ := u_39
  rw [ht_39] at hb_39
  simp only at hb_39
  obtain ⟨⟨hb_391, hb_392, hb_393, hb_394, hb_395, hb_396⟩, hgq_39_0, hN_39, hbE_39⟩ := hb_39
  have hh_39 : jSt (dC, dI) B base G0 G_39 EX11_diagnostic s.heap ((((0 + ((m_qa_1 - n_pa) / 16)) + ((m_qa_15 - m_qa_1) / 16)) + ((m_qa_24 - m_qa_15) / 16)) + ((m_qa_39 - m_qa_24) / 16)) ((((0 + (2 * (m_qa_1 - n_pa))) + (2 * (m_qa_15 - m_qa_1))) + (2 * (m_qa_24 - m_qa_15))) + (2 * (m_qa_39 - m_qa_24))) [(bo, 2, 1, .int qc_39), (bo, 2, 0, .ref qa_39), (r1, 3, 6, .ref ends_37), (r1, 3, 5, .ref starts_13), (r0, 13, 4, .ref bo), (r1, 3, 9, .ref bh)] [] [([(210, 0)], jQc dC dI (ca 6) bh 40 fq)] H_39 locs_39 := (hh_36.callG hb_391 hb_392 hb_393 hb_394 hb_395 hS_39 rfl (L1 := [(r1, 3, 6, .ref ends_37), (r1, 3, 5, .ref starts_13), (r0, 13, 4, .ref bo), (r1, 3, 9, .ref bh)]) [0, 3, 4, 5] rfl rfl (M1 := []) [] rfl rfl (I1 := [([(210, 0)], jQc dC dI (ca 6) bh 40 fq)]) [1] rfl rfl).more hb_396
  have hNn_39 : (jNk [0, 1, 2, 3, 4, 5, 6, 7, 8, 9, 10, 11, 12, 13, 14, 15, 16]) G0 G_39 := (hNn_24).tr hN_39
  have hg_41 := hb_392 _ _ hg_27
  have hg_42 := hb_392 _ _ hg_28
  have hg_43 := hb_392 _ _ hg_ends_37
  have hg_44 := hb_392 _ _ hg_29
  have hg_45 := hb_392 _ _ hg_30
  have hg_46 := hb_392 _ _ hg_31
  have hh_48 := hh_39.addIs hbE_39
  try simp only at hr_40
  obtain ⟨hr_40_0, hr_40_1, hr_40_2, hr_40_3, hr_40_4⟩ := hr_40
  refine lv_aload_n hx hb dX11_diagnostic_42 rfl (lv_at hl 0 rfl) ?_
  refine j7_read hx hb hown hK (C := RX11) (T := TX11) (N := 19) rfl hly_13_4 hlk_35 (hh_48.at 4 rfl) dX11_diagnostic_43 ?_
  refine j_ldcSw hx hb hown rstr524 dX11_diagnostic_46 ?_
  have hsz_49 := hh_48.2.2.2.2.2.1
  have htt_49 := hh_48.2.2.2.2.2.2.1
  refine W.room (fun hrc_49 hrs_49 => ?_)
  refine va_callv (A0 := jA base) (H0 := s.heap) (va_runV (As := [.ref str524]) (rest := []) ⟨hx, hb, hml, hown, hts⟩ (uX0_text l dC dI ca base B hB hAp hB2 hB196 G_39 H_39 bo str524 26 qc_39 qa_39 m_qa_39 LC LS) (cwV 1 hts (jgV (jWr_26 _ (List.mem_of_getElem? (i := 11) rfl)) (jWr_25 _ (List.mem_of_getElem? (i := 22) rfl)) (jWr_25 _ (List.mem_of_getElem? (i := 23) rfl)) (jWr_1 _ (List.mem_of_getElem? (i := 14) rfl)) (jWr_26 _ (List.mem_of_getElem? (i := 0) rfl))) rfl rfl rfl (by decide +kernel) ⟨by rw [← hR]; exact Nat.le_of_ble_eq_true rfl, by rw [← hR]; exact Nat.le_of_ble_eq_true rfl⟩) ⟨fun a U g mk q => by obtain ⟨q0, q1, q2, qK, q10, q11, q12, q13, q14⟩ := q; exact ⟨q0, q1, q2, jG.calling g mk a qK, (q10.moved (Vm.Alike.refl U.vm)), q11, q12, q13, q14⟩, hh_48.recv (C := RX0) (T := TX0) (N := 2) hB2 rfl (by decide) hg_45 hK, fun U hU hW => ⟨rfl, hU, hh_48.2.1, hG.step hW hU hh_48.1, (hstr524.moved hW.alike).kept hh_48.1.2.1, hg_45, hgq_39_0, (hh_48.2.2.1.sub (L1 := [(bo, 2, 1, .int qc_39), (bo, 2, 0, .ref qa_39)]) [0, 1] rfl), (by omega), (by omega), by first | omega | (refine ⟨?_, ?_, ?_, ?_, ?_, ?_⟩ <;> (first | omega | rfl | assumption | decide | exact Or.inl rfl | exact Or.inr rfl | (simp only; omega)))⟩⟩ rfl rfl hl.1 rfl (lv_room (Nat.le_of_ble_eq_true rfl)) dX11_diagnostic_49 ⟨by rw [hRc]; omega, by rw [hRs]; omega⟩) hh_48.1 (fun q _ h => h) (fun q h => h) (fun u_49 t_49 H_49 locs_49 ht_49 hvm_49 hr_50 hb_49 hz_49 hk_49 hS_49 => ?_)
  obtain ⟨qc_49, qa_49, m_qa_49, G_49⟩ := u_49
  rw [ht_49] at hb_49
  simp only at hb_49
  obtain ⟨⟨hb_491, hb_492, hb_493, hb_494, hb_495, hb_496⟩, hgq_49_0, hN_49, hbO_49⟩ := hb_49
  have hy_51 := hh_48.iv 0 rfl
  have hh_49 : jSt (dC, dI) B base G0 G_49 EX11_diagnostic s.heap (((((0 + ((m_qa_1 - n_pa) / 16)) + ((m_qa_15 - m_qa_1) / 16)) + ((m_qa_24 - m_qa_15) / 16)) + ((m_qa_39 - m_qa_24) / 16)) + ((m_qa_49 - m_qa_39) / 16)) (((((0 + (2 * (m_qa_1 - n_pa))) + (2 * (m_qa_15 - m_qa_1))) + (2 * (m_qa_24 - m_qa_15))) + (2 * (m_qa_39 - m_qa_24))) + (2 * (m_qa_49 - m_qa_39))) [(bo, 2, 1, .int qc_49), (bo, 2, 0, .ref qa_49), (r1, 3, 6, .ref ends_37), (r1, 3, 5, .ref starts_13), (r0, 13, 4, .ref bo), (r1, 3, 9, .ref bh)] [] [([(210, 0)], jQc dC dI (ca 6) bh 40 fq)] H_49 locs_49 := (hh_48.callG hb_491 hb_492 hb_493 hb_494 hb_495 hS_49 rfl (L1 := [(r1, 3, 6, .ref ends_37), (r1, 3, 5, .ref starts_13), (r0, 13, 4, .ref bo), (r1, 3, 9, .ref bh)]) [2, 3, 4, 5] rfl rfl (M1 := []) [] rfl rfl (I1 := [([(210, 0)], jQc dC dI (ca 6) bh 40 fq)]) [1] rfl rfl).more hb_496
  have hNn_49 : (jNk [0, 1, 2, 3, 4, 5, 6, 7, 8, 9, 10, 11, 12, 13, 14, 15, 16]) G0 G_49 := (hNn_39).tr hN_49
  have hg_52 := hb_492 _ _ hg_41
  have hg_53 := hb_492 _ _ hg_42
  have hg_54 := hb_492 _ _ hg_43
  have hg_55 := hb_492 _ _ hg_44
  have hg_56 := hb_492 _ _ hg_45
  have hg_57 := hb_492 _ _ hg_46
  have hyp_49 : qc_49.toInt ≤ (m_qa_49 : Nat) ∧ m_qa_49 ≤ 1048576 := by (try simp only at hr_50); omega
  have hy_59 := jYb.own hy_51 hbO_49 hb_492 hN_49 (by decide) (fun _ => ⟨_, _, _, hh_49.at 0 rfl, hh_49.at 1 rfl, hgq_49_0, hyp_49⟩)
  have hh_60 := hh_49.addI (jYb.ie hy_59)
  clear hh_49
  try simp only at hr_50
  obtain ⟨hr_50_0, hr_50_1, hr_50_2, hr_50_3, hr_50_4⟩ := hr_50
  refine lv_aload_n hx hb dX11_diagnostic_52 rfl (lv_at hl 0 rfl) ?_
  refine j7_read hx hb hown hK (C := RX11) (T := TX11) (N := 19) rfl hly_13_4 hlk_35 (hh_60.at 4 rfl) dX11_diagnostic_53 ?_
  refine lv_aload_n hx hb dX11_diagnostic_56 rfl (lv_at hl 1 rfl) ?_
  refine j7_read hx hb hown hK (C := RX1) (T := TX1) (N := 17) rfl hly_3_9 hlk_178 (hh_60.at 5 rfl) dX11_diagnostic_57 ?_
  refine lv_iload_n hx hb dX11_diagnostic_60 rfl (lv_at hl 2 rfl) ?_
  refine j7_qaldI hx hb hK2 hh_60 hB210 2 rfl (by decide) hg_57 (x := a2.toInt) (rfl) (by omega) (hh_60.iv 1 rfl) dX11_diagnostic_61 (fun o_61 ho_61 heo_61 => ?_)
  rcases ho_61 with rfl | ⟨el_62, rfl, hg_el_62⟩
  · simp only [va_rf]
    exact absurd heo_61.symm hp7
  · simp only [va_rf]
    obtain ⟨v_63, hv_63, hh_64⟩ := hh_60.pin (C := RX9) (T := TX9) (N := 9) hB11 rfl (by decide) hg_el_62 (i := 2) (by decide) rfl
    clear hh_60
    obtain ⟨fault_65, rfl⟩ := hv_63
    refine j7_read hx hb hown hK (C := RX9) (T := TX9) (N := 9) rfl hly_11_2 hlk_188 (hh_64.at 0 rfl) dX11_diagnostic_62 ?_
    have hsz_66 := hh_64.2.2.2.2.2.1
    have htt_66 := hh_64.2.2.2.2.2.2.1
    refine W.room (fun hrc_66 hrs_66 => ?_)
    refine j_callx (A0 := jA base) (H0 := s.heap) (va_runS (As := [.int fault_65]) (rest := [.ref bo]) ⟨hx, hb, hml, hown, hts⟩ (uX11_faultText l dC dI ca base B hB hAp G_49 H_49 fault_65) (va_cwS 1 hts (jgS (jWr_41 _ (List.mem_of_getElem? (i := 1) rfl)) (jWr_41 _ (List.mem_of_getElem? (i := 2) rfl)) (jWr_1 _ (List.mem_of_getElem? (i := 2) rfl)) (jWr_41 _ (List.mem_of_getElem? (i := 3) rfl))) rfl rfl rfl (by decide +kernel) ⟨by rw [← hR]; exact Nat.le_of_ble_eq_true rfl, by rw [← hR]; exact Nat.le_of_ble_eq_true rfl⟩) ⟨fun a U g mk q => by obtain ⟨q0, q1, q2, qK, q10, q11⟩ := q; exact ⟨q0, q1, q2, jG.calling g mk a qK, q10, q11⟩, fun U hU hW => ⟨rfl, hU, hh_64.2.1, hG.step hW hU hh_64.1, jP.nil, trivial⟩⟩ rfl rfl hl.1 rfl (lv_room (Nat.le_of_ble_eq_true rfl)) dX11_diagnostic_65 ⟨by rw [hRc]; show _ + 0 ≤ _; omega, by rw [hRs]; show _ + 0 ≤ _; omega⟩) hh_64.1 (fun q _ h => h) (fun q h => h) (fun r_67 u_66 t_66 H_66 locs_66 ht_66 hvm_66 hr_67 hb_66 hz_66 hk_66 hS_66 => ?_)
    rw [ht_66] at hb_66
    obtain ⟨hb_66, hbV_66⟩ := hb_66
    obtain ⟨hb_661, hb_662, hb_663, hb_664, hb_665⟩ := hb_66
    have hh_66 : jSt (dC, dI) B base G0 G_49 EX11_diagnostic s.heap (((((0 + ((m_qa_1 - n_pa) / 16)) + ((m_qa_15 - m_qa_1) / 16)) + ((m_qa_24 - m_qa_15) / 16)) + ((m_qa_39 - m_qa_24) / 16)) + ((m_qa_49 - m_qa_39) / 16)) (((((0 + (2 * (m_qa_1 - n_pa))) + (2 * (m_qa_15 - m_qa_1))) + (2 * (m_qa_24 - m_qa_15))) + (2 * (m_qa_39 - m_qa_24))) + (2 * (m_qa_49 - m_qa_39))) [(el_62, 11, 2, .int fault_65), (bo, 2, 1, .int qc_49), (bo, 2, 0, .ref qa_49), (r1, 3, 6, .ref ends_37), (r1, 3, 5, .ref starts_13), (r0, 13, 4, .ref bo), (r1, 3, 9, .ref bh)] [] [(jFy, jYb dC dI G_49), ([(210, 0)], jQc dC dI (ca 6) bh 40 fq)] H_66 locs_66 := ((hh_64.call hb_661 hb_662 hb_663 hb_664 hS_66 rfl (L1 := [(el_62, 11, 2, .int fault_65), (bo, 2, 1, .int qc_49), (bo, 2, 0, .ref qa_49), (r1, 3, 6, .ref ends_37), (r1, 3, 5, .ref starts_13), (r0, 13, 4, .ref bo), (r1, 3, 9, .ref bh)]) [0, 1, 2, 3, 4, 5, 6] rfl rfl (M1 := []) [] rfl rfl (I1 := [(jFy, jYb dC dI G_49), ([(210, 0)], jQc dC dI (ca 6) bh 40 fq)]) [0, 1] rfl rfl).more hb_665)
    obtain ⟨rfl, hn_66⟩ := hr_67
    have hstr_66 : jStr base u_66.1 u_66.2 s s.heap := hbV_66.back hvm_66 hbs hh_66.1.2.1
    clear hh_64 ht_66 hvm_66 hz_66 hk_66 hS_66 hb_661 hb_662 hb_663 hb_664 hb_665
    have hsz_68 := hh_66.2.2.2.2.2.1
    have htt_68 := hh_66.2.2.2.2.2.2.1
    refine W.room (fun hrc_68 hrs_68 => ?_)
    refine va_callv (A0 := jA base) (H0 := s.heap) (va_runV (As := [.ref u_66.1]) (rest := []) ⟨hx, hb, hml, hown, hts⟩ (uX0_text l dC dI ca base B hB hAp hB2 hB196 G_49 H_66 bo u_66.1 u_66.2 qc_49 qa_49 m_qa_49 LC LS) (cwV 1 hts (jgV (jWr_26 _ (List.mem_of_getElem? (i := 11) rfl)) (jWr_25 _ (List.mem_of_getElem? (i := 22) rfl)) (jWr_25 _ (List.mem_of_getElem? (i := 23) rfl)) (jWr_1 _ (List.mem_of_getElem? (i := 14) rfl)) (jWr_26 _ (List.mem_of_getElem? (i := 0) rfl))) rfl rfl rfl (by decide +kernel) ⟨by rw [← hR]; exact Nat.le_of_ble_eq_true rfl, by rw [← hR]; exact Nat.le_of_ble_eq_true rfl⟩) ⟨fun a U g mk q => by obtain ⟨q0, q1, q2, qK, q10, q11, q12, q13, q14⟩ := q; exact ⟨q0, q1, q2, jG.calling g mk a qK, (q10.moved (Vm.Alike.refl U.vm)), q11, q12, q13, q14⟩, hh_66.recv (C := RX0) (T := TX0) (N := 2) hB2 rfl (by decide) hg_56 hK, fun U hU hW => ⟨rfl, hU, hh_66.2.1, hG.step hW hU hh_66.1, (hstr_66.moved hW.alike).kept hh_66.1.2.1, hg_56, hgq_49_0, (hh_66.2.2.1.sub (L1 := [(bo, 2, 1, .int qc_49), (bo, 2, 0, .ref qa_49)]) [1, 2] rfl), (by omega), (by omega), by first | omega | (refine ⟨?_, ?_, ?_, ?_, ?_, ?_⟩ <;> (first | omega | rfl | assumption | decide | exact Or.inl rfl | exact Or.inr rfl | (simp only; omega)))⟩⟩ rfl rfl hl.1 rfl (lv_room (Nat.le_of_ble_eq_true rfl)) dX11_diagnostic_68 ⟨by rw [hRc]; omega, by rw [hRs]; omega⟩) hh_66.1 (fun q _ h => h) (fun q h => h) (fun u_68 t_68 H_68 locs_68 ht_68 hvm_68 hr_69 hb_68 hz_68 hk_68 hS_68 => ?_)
    obtain ⟨qc_68, qa_68, m_qa_68, G_68⟩ := u_68
    rw [ht_68] at hb_68
    simp only at hb_68
    obtain ⟨⟨hb_681, hb_682, hb_683, hb_684, hb_685, hb_686⟩, hgq_68_0, hN_68, hbO_68⟩ := hb_68
    have hy_70 := hh_66.iv 0 rfl
    have hh_68 : jSt (dC, dI) B base G0 G_68 EX11_diagnostic s.heap ((((((0 + ((m_qa_1 - n_pa) / 16)) + ((m_qa_15 - m_qa_1) / 16)) + ((m_qa_24 - m_qa_15) / 16)) + ((m_qa_39 - m_qa_24) / 16)) + ((m_qa_49 - m_qa_39) / 16)) + ((m_qa_68 - m_qa_49) / 16)) ((((((0 + (2 * (m_qa_1 - n_pa))) + (2 * (m_qa_15 - m_qa_1))) + (2 * (m_qa_24 - m_qa_15))) + (2 * (m_qa_39 - m_qa_24))) + (2 * (m_qa_49 - m_qa_39))) + (2 * (m_qa_68 - m_qa_49))) [(bo, 2, 1, .int qc_68), (bo, 2, 0, .ref qa_68), (el_62, 11, 2, .int fault_65), (r1, 3, 6, .ref ends_37), (r1, 3, 5, .ref starts_13), (r0, 13, 4, .ref bo), (r1, 3, 9, .ref bh)] [] [([(210, 0)], jQc dC dI (ca 6) bh 40 fq)] H_68 locs_68 := (hh_66.callG hb_681 hb_682 hb_683 hb_684 hb_685 hS_68 rfl (L1 := [(el_62, 11, 2, .int fault_65), (r1, 3, 6, .ref ends_37), (r1, 3, 5, .ref starts_13), (r0, 13, 4, .ref bo), (r1, 3, 9, .ref bh)]) [0, 3, 4, 5, 6] rfl rfl (M1 := []) [] rfl rfl (I1 := [([(210, 0)], jQc dC dI (ca 6) bh 40 fq)]) [1] rfl rfl).more hb_686
    have hNn_68 : (jNk [0, 1, 2, 3, 4, 5, 6, 7, 8, 9, 10, 11, 12, 13, 14, 15, 16]) G0 G_68 := (hNn_49).tr hN_68
    have hg_71 := hb_682 _ _ hg_52
    have hg_72 := hb_682 _ _ hg_53
    have hg_73 := hb_682 _ _ hg_54
    have hg_74 := hb_682 _ _ hg_55
    have hg_75 := hb_682 _ _ hg_56
    have hg_76 := hb_682 _ _ hg_57
    have hyp_68 : qc_68.toInt ≤ (m_qa_68 : Nat) ∧ m_qa_68 ≤ 1048576 := by (try simp only at hr_69); omega
    have hy_78 := jYb.own hy_70 hbO_68 hb_682 hN_68 (by decide) (fun _ => ⟨_, _, _, hh_68.at 0 rfl, hh_68.at 1 rfl, hgq_68_0, hyp_68⟩)
    have hh_79 := hh_68.addI (jYb.ie hy_78)
    clear hh_68
    try simp only at hr_69
    obtain ⟨hr_69_0, hr_69_1, hr_69_2, hr_69_3, hr_69_4⟩ := hr_69
    refine lv_aload_n hx hb dX11_diagnostic_71 rfl (lv_at hl 0 rfl) ?_
    refine j7_read hx hb hown hK (C := RX11) (T := TX11) (N := 19) rfl hly_13_4 hlk_35 (hh_79.at 5 rfl) dX11_diagnostic_72 ?_
    refine j_ldcSw hx hb hown rstr529 dX11_diagnostic_75 ?_
    have hsz_80 := hh_79.2.2.2.2.2.1
    have htt_80 := hh_79.2.2.2.2.2.2.1
    refine W.room (fun hrc_80 hrs_80 => ?_)
    refine va_callv (A0 := jA base) (H0 := s.heap) (va_runV (As := [.ref str529]) (rest := []) ⟨hx, hb, hml, hown, hts⟩ (uX0_text l dC dI ca base B hB hAp hB2 hB196 G_68 H_68 bo str529 2 qc_68 qa_68 m_qa_68 LC LS) (cwV 1 hts (jgV (jWr_26 _ (List.mem_of_getElem? (i := 11) rfl)) (jWr_25 _ (List.mem_of_getElem? (i := 22) rfl)) (jWr_25 _ (List.mem_of_getElem? (i := 23) rfl)) (jWr_1 _ (List.mem_of_getElem? (i := 14) rfl)) (jWr_26 _ (List.mem_of_getElem? (i := 0) rfl))) rfl rfl rfl (by decide +kernel) ⟨by rw [← hR]; exact Nat.le_of_ble_eq_true rfl, by rw [← hR]; exact Nat.le_of_ble_eq_true rfl⟩) ⟨fun a U g mk q => by obtain ⟨q0, q1, q2, qK, q10, q11, q12, q13, q14⟩ := q; exact ⟨q0, q1, q2, jG.calling g mk a qK, (q10.moved (Vm.Alike.refl U.vm)), q11, q12, q13, q14⟩, hh_79.recv (C := RX0) (T := TX0) (N := 2) hB2 rfl (by decide) hg_75 hK, fun U hU hW => ⟨rfl, hU, hh_79.2.1, hG.step hW hU hh_79.1, (hstr529.moved hW.alike).kept hh_79.1.2.1, hg_75, hgq_68_0, (hh_79.2.2.1.sub (L1 := [(bo, 2, 1, .int qc_68), (bo, 2, 0, .ref qa_68)]) [0, 1] rfl), (by omega), (by omega), by first | omega | (refine ⟨?_, ?_, ?_, ?_, ?_, ?_⟩ <;> (first | omega | rfl | assumption | decide | exact Or.inl rfl | exact Or.inr rfl | (simp only; omega)))⟩⟩ rfl rfl hl.1 rfl (lv_room (Nat.le_of_ble_eq_true rfl)) dX11_diagnostic_78 ⟨by rw [hRc]; omega, by rw [hRs]; omega⟩) hh_79.1 (fun q _ h => h) (fun q h => h) (fun u_80 t_80 H_80 locs_80 ht_80 hvm_80 hr_81 hb_80 hz_80 hk_80 hS_80 => ?_)
    obtain ⟨qc_80, qa_80, m_qa_80, G_80⟩ := u_80
    rw [ht_80] at hb_80
    simp only at hb_80
    obtain ⟨⟨hb_801, hb_802, hb_803, hb_804, hb_805, hb_806⟩, hgq_80_0, hN_80, hbO_80⟩ := hb_80
    have hy_82 := hh_79.iv 0 rfl
    have hh_80 : jSt (dC, dI) B base G0 G_80 EX11_diagnostic s.heap (((((((0 + ((m_qa_1 - n_pa) / 16)) + ((m_qa_15 - m_qa_1) / 16)) + ((m_qa_24 - m_qa_15) / 16)) + ((m_qa_39 - m_qa_24) / 16)) + ((m_qa_49 - m_qa_39) / 16)) + ((m_qa_68 - m_qa_49) / 16)) + ((m_qa_80 - m_qa_68) / 16)) (((((((0 + (2 * (m_qa_1 - n_pa))) + (2 * (m_qa_15 - m_qa_1))) + (2 * (m_qa_24 - m_qa_15))) + (2 * (m_qa_39 - m_qa_24))) + (2 * (m_qa_49 - m_qa_39))) + (2 * (m_qa_68 - m_qa_49))) + (2 * (m_qa_80 - m_qa_68))) [(bo, 2, 1, .int qc_80), (bo, 2, 0, .ref qa_80), (el_62, 11, 2, .int fault_65), (r1, 3, 6, .ref ends_37), (r1, 3, 5, .ref starts_13), (r0, 13, 4, .ref bo), (r1, 3, 9, .ref bh)] [] [([(210, 0)], jQc dC dI (ca 6) bh 40 fq)] H_80 locs_80 := (hh_79.callG hb_801 hb_802 hb_803 hb_804 hb_805 hS_80 rfl (L1 := [(el_62, 11, 2, .int fault_65), (r1, 3, 6, .ref ends_37), (r1, 3, 5, .ref starts_13), (r0, 13, 4, .ref bo), (r1, 3, 9, .ref bh)]) [2, 3, 4, 5, 6] rfl rfl (M1 := []) [] rfl rfl (I1 := [([(210, 0)], jQc dC dI (ca 6) bh 40 fq)]) [1] rfl rfl).more hb_806
    have hNn_80 : (jNk [0, 1, 2, 3, 4, 5, 6, 7, 8, 9, 10, 11, 12, 13, 14, 15, 16]) G0 G_80 := (hNn_68).tr hN_80
    have hg_83 := hb_802 _ _ hg_71
    have hg_84 := hb_802 _ _ hg_72
    have hg_85 := hb_802 _ _ hg_73
    have hg_86 := hb_802 _ _ hg_74
    have hg_87 := hb_802 _ _ hg_75
    have hg_88 := hb_802 _ _ hg_76
    have hyp_80 : qc_80.toInt ≤ (m_qa_80 : Nat) ∧ m_qa_80 ≤ 1048576 := by (try simp only at hr_81); omega
    have hy_90 := jYb.own hy_82 hbO_80 hb_802 hN_80 (by decide) (fun _ => ⟨_, _, _, hh_80.at 0 rfl, hh_80.at 1 rfl, hgq_80_0, hyp_80⟩)
    have hh_91 := hh_80.addI (jYb.ie hy_90)
    clear hh_80
    try simp only at hr_81
    obtain ⟨hr_81_0, hr_81_1, hr_81_2, hr_81_3, hr_81_4⟩ := hr_81
    have hsz_92 := hh_91.2.2.2.2.2.1
    have htt_92 := hh_91.2.2.2.2.2.2.1
    refine W.room (fun hrc_92 hrs_92 => ?_)
    refine W.widen (k := LC - s.heap.size) (n := LS - jTot s.heap) (by omega) (by omega) ?_
    rw [hQ]
    exact W.vret hx hb hr (fun t ht hW => ⟨⟨(qc_80, qa_80, m_qa_80, G_80), rfl, by (try dsimp only); exact ⟨(by first | omega | rfl | assumption | fail), (by first | omega | rfl | assumption | fail), (by first | omega | rfl | assumption | fail), (by first | omega | rfl | assumption | fail), (by first | assumption | fail | omega)⟩, ⟨hh_91.ra (by first | omega | (simp only; omega)) (by first | omega | (simp only; omega)) (M1 := [(bo, 2, 1, .int qc_80), (bo, 2, 0, .ref qa_80)]) [0, 1] rfl ht, hgq_80_0, hNn_80, by rw [ht]; exact hh_91.2.2.2.2.2.2.2.2.sub (L1 := [(jFy, jYb dC dI G_80)]) [0] rfl⟩⟩, by rw [ht]; try exact hh_91.1.1, fun q h9 hq => by rw [ht]; try exact hh_91.1.2.1 q h9 hq⟩) hh_91.1.2.2 dX11_diagnostic_81
