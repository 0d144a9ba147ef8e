section
theorem dX11_reply_0 : decode cX11_reply 0 = .ok (.aload_n 1, 1) := by decide +kernel
theorem dX11_reply_1 : decode cX11_reply 1 = .ok (.getfield 432, 3) := by decide +kernel
theorem dX11_reply_4 : decode cX11_reply 4 = .ok (.ifnonnull 13, 3) := by decide +kernel
theorem dX11_reply_7 : decode cX11_reply 7 = .ok (.aload_n 0, 1) := by decide +kernel
theorem dX11_reply_8 : decode cX11_reply 8 = .ok (.getfield 41, 3) := by decide +kernel
theorem dX11_reply_11 : decode cX11_reply 11 = .ok (.getfield 217, 3) := by decide +kernel
theorem dX11_reply_14 : decode cX11_reply 14 = .ok (.goto 21, 3) := by decide +kernel
theorem dX11_reply_17 : decode cX11_reply 17 = .ok (.aload_n 1, 1) := by decide +kernel
theorem dX11_reply_18 : decode cX11_reply 18 = .ok (.getfield 432, 3) := by decide +kernel
theorem dX11_reply_21 : decode cX11_reply 21 = .ok (.aload_n 1, 1) := by decide +kernel
theorem dX11_reply_22 : decode cX11_reply 22 = .ok (.getfield 438, 3) := by decide +kernel
theorem dX11_reply_25 : decode cX11_reply 25 = .ok (.aload_n 0, 1) := by decide +kernel
theorem dX11_reply_26 : decode cX11_reply 26 = .ok (.getfield 41, 3) := by decide +kernel
theorem dX11_reply_29 : decode cX11_reply 29 = .ok (.getfield 217, 3) := by decide +kernel
theorem dX11_reply_32 : decode cX11_reply 32 = .ok (.invokevirtual 221, 3) := by decide +kernel
theorem dX11_reply_35 : decode cX11_reply 35 = .ok (.astore_n 2, 1) := by decide +kernel
theorem dX11_reply_36 : decode cX11_reply 36 = .ok (.aload_n 0, 1) := by decide +kernel
theorem dX11_reply_37 : decode cX11_reply 37 = .ok (.aload_n 1, 1) := by decide +kernel
theorem dX11_reply_38 : decode cX11_reply 38 = .ok (.ldc_w 289, 3) := by decide +kernel
theorem dX11_reply_41 : decode cX11_reply 41 = .ok (.invokevirtual 291, 3) := by decide +kernel
theorem dX11_reply_44 : decode cX11_reply 44 = .ok (.aload_n 1, 1) := by decide +kernel
theorem dX11_reply_45 : decode cX11_reply 45 = .ok (.getfield 443, 3) := by decide +kernel
theorem dX11_reply_48 : decode cX11_reply 48 = .ok (.ifCond .eq 22, 3) := by decide +kernel
theorem dX11_reply_51 : decode cX11_reply 51 = .ok (.aload_n 0, 1) := by decide +kernel
theorem dX11_reply_52 : decode cX11_reply 52 = .ok (.getfield 54, 3) := by decide +kernel
theorem dX11_reply_55 : decode cX11_reply 55 = .ok (.aload_n 2, 1) := by decide +kernel
theorem dX11_reply_56 : decode cX11_reply 56 = .ok (.aload_n 1, 1) := by decide +kernel
theorem dX11_reply_57 : decode cX11_reply 57 = .ok (.getfield 451, 3) := by decide +kernel
theorem dX11_reply_60 : decode cX11_reply 60 = .ok (.aload_n 0, 1) := by decide +kernel
theorem dX11_reply_61 : decode cX11_reply 61 = .ok (.getfield 35, 3) := by decide +kernel
theorem dX11_reply_64 : decode cX11_reply 64 = .ok (.invokevirtual 460, 3) := by decide +kernel
theorem dX11_reply_67 : decode cX11_reply 67 = .ok (.goto 15, 3) := by decide +kernel
theorem dX11_reply_70 : decode cX11_reply 70 = .ok (.aload_n 0, 1) := by decide +kernel
theorem dX11_reply_71 : decode cX11_reply 71 = .ok (.getfield 54, 3) := by decide +kernel
theorem dX11_reply_74 : decode cX11_reply 74 = .ok (.aload_n 2, 1) := by decide +kernel
theorem dX11_reply_75 : decode cX11_reply 75 = .ok (.aload_n 0, 1) := by decide +kernel
theorem dX11_reply_76 : decode cX11_reply 76 = .ok (.getfield 35, 3) := by decide +kernel
theorem dX11_reply_79 : decode cX11_reply 79 = .ok (.invokevirtual 242, 3) := by decide +kernel
theorem dX11_reply_82 : decode cX11_reply 82 = .ok (.aload_n 0, 1) := by decide +kernel
theorem dX11_reply_83 : decode cX11_reply 83 = .ok (.getfield 35, 3) := by decide +kernel
theorem dX11_reply_86 : decode cX11_reply 86 = .ok (.bipush 125, 2) := by decide +kernel
theorem dX11_reply_88 : decode cX11_reply 88 = .ok (.invokevirtual 246, 3) := by decide +kernel
theorem dX11_reply_91 : decode cX11_reply 91 = .ok (.aload_n 0, 1) := by decide +kernel
theorem dX11_reply_92 : decode cX11_reply 92 = .ok (.invokevirtual 300, 3) := by decide +kernel
theorem dX11_reply_95 : decode cX11_reply 95 = .ok (.return_, 1) := by decide +kernel
def EX11_reply : List (Nat × Nat) := [(2, 0), (2, 1), (9, 2), (13, 14), (196, 0), (286, 0), (287, 0), (288, 0)]
set_option maxHeartbeats 4000000 in
set_option maxRecDepth 20000 in
theorem uX11_reply (l : Launch) (dC : Nat → ClassId) (dI : Nat → Nat → Nat) (ca : Nat → ClassId) (base : Nat) (B : jF) (hB : jBok B) (hAp : jAp (dC, dI)) (hB2 : ∀ n G a H, B 2 n G a H ↔ jOb (dC, dI) 2 2 (F2 n G) a H) (hB3 : ∀ n G a H, B 3 n G a H ↔ jOb (dC, dI) 3 17 (F3 n G) a H) (hB4 : ∀ n G a H, B 4 n G a H ↔ jOb (dC, dI) 4 12 (F4 n G) a H) (hB5 : ∀ n G a H, B 5 n G a H ↔ jOb (dC, dI) 5 4 (F5 n G) a H) (hB7 : ∀ n G a H, B 7 n G a H ↔ jOb (dC, dI) 7 11 (F7 n G) a H) (hB8 : ∀ n G a H, B 8 n G a H ↔ jOb (dC, dI) 8 4 (F8 n G) a H) (hB9 : ∀ n G a H, B 9 n G a H ↔ jOb (dC, dI) 9 5 (F9b n G) a H) (hB10 : ∀ n G a H, B 10 n G a H ↔ jOb (dC, dI) 10 5 (F10 n G) a H) (hB11 : ∀ n G a H, B 11 n G a H ↔ jOb (dC, dI) 11 9 (F11 n G) a H) (hB13 : ∀ n G a H, B 13 n G a H ↔ jOb (dC, dI) 13 19 (F13 n G) a H) (hB17 : ∀ n G a H, B 17 n G a H ↔ jOb (dC, dI) 17 2 (F17 n G) a H) (hB101 : ∀ n G a H, B 101 n G a H ↔ jAr (dC, dI) (ca 1) (fun j z => True) n a H) (hB102 : ∀ n G a H, B 102 n G a H ↔ jAl (dC, dI) (ca 2) n a H) (hB132 : ∀ n G a H, B 132 n G a H ↔ jAr (dC, dI) (ca 1) (fun j z => 0 ≤ z.toInt ∧ z.toInt ≤ 10) n a H) (hB196 : ∀ n G a H, B 196 n G a H ↔ jAr (dC, dI) (ca 0) (fun j z => jBf j z) n a H) (hB199 : ∀ n G a H, B 199 n G a H ↔ jAr (dC, dI) (ca 0) (fun j z => jBf j z) n a H) (hB210 : ∀ n G a H, B 210 n G a H ↔ jAq (dC, dI) (ca 6) (jQn 11 0) n G a H) (hB214 : ∀ n G a H, B 214 n G a H ↔ jAq (dC, dI) (ca 7) (jQg) n G a H) (hB280 : ∀ n G a H, B 280 n G a H ↔ jAr (dC, dI) (ca 1) (fun j z => -1 ≤ z.toInt) n a H) (hB286 : ∀ n G a H, B 286 n G a H ↔ jAr (dC, dI) (ca 1) (fun j z => (0 ≤ z.toInt ∨ z.toInt = -3)) n a H) (hB287 : ∀ n G a H, B 287 n G a H ↔ jAr (dC, dI) (ca 1) (fun j z => 0 ≤ z.toInt ∧ z.toInt ≤ 65535) n a H) (hB288 : ∀ n G a H, B 288 n G a H ↔ jAr (dC, dI) (ca 1) (fun j z => 0 ≤ z.toInt ∧ z.toInt ≤ 160) n a H) (hB313 : ∀ n G a H, B 313 n G a H ↔ jAq (dC, dI) (ca 8) (jQk 280 80) n G a H) (G0 : jT) (H0 : Heap) (r0 : Nat) (r1 : Nat) (bo : Nat) (pc : Int32) (pa : Nat) (n_pa : Nat) (ou : Nat) (LC LS : Nat) : Met l yX11_reply (jw yX11_reply cX11_reply 3 none) ({ frames := 7, cells := LC - H0.size, slots := LS - jTot H0, locals := 219 }) (va_Pc [.ref r0, .ref r1] (fun U => U.heap = H0 ∧ jX B base G0 [] H0 ∧ jG dC dI ca base U ∧ jK2 dC dI ca U ∧ jK5 dC dI ca U ∧ G0 r0 = some (13, 0) ∧ G0 r1 = some (10, 0) ∧ G0 bo = some (2, 0) ∧ G0 pa = some (196, n_pa) ∧ G0 ou = some (2, 20000) ∧ jP (dC, dI) G0 H0 [(r0, 13, 4, .ref bo), (bo, 2, 1, .int pc), (bo, 2, 0, .ref pa), (r0, 13, 3, .ref ou)] ∧ jIs (dC, dI) G0 H0 [(jFy, jYb dC dI G0), (jFs11, jSef dC dI G0)] ∧ H0.size + (1048576 - n_pa) / 16 + 1 ≤ LC ∧ jTot H0 + 2 * (1048576 - n_pa) ≤ LS ∧ 0 ≤ pc.toInt ∧ pc.toInt ≤ n_pa ∧ 16 ≤ n_pa ∧ n_pa ≤ 1048576 ∧ jPw n_pa)) (va_Qv (S := Int32 × Nat × Nat × jT) (fun u => 0 ≤ u.1.toInt ∧ u.1.toInt ≤ u.2.2.1 ∧ n_pa ≤ u.2.2.1 ∧ u.2.2.1 ≤ 1048576 ∧ jPw u.2.2.1) (fun u t => jRa (dC, dI) B base G0 u.2.2.2 EX11_reply H0 ((u.2.2.1 - n_pa) / 16) (2 * (u.2.2.1 - n_pa)) [(bo, 2, 1, .int u.1), (bo, 2, 0, .ref u.2.1)] t.heap ∧ u.2.2.2 u.2.1 = some (196, u.2.2.1) ∧ (jNk [0, 1, 2, 3, 4, 5, 6, 7, 8, 9, 10, 11, 12, 13, 14, 15, 16, 17, 175]) G0 u.2.2.2 ∧ jOl (dC, dI) G0 2 [bo, ou] H0 t.heap ∧ jIs (dC, dI) u.2.2.2 t.heap [(jFy, jYb dC dI u.2.2.2), (jFs11, jSef dC dI u.2.2.2)]) (jA base)) (LC - H0.size) (LS - jTot H0) (jA base) := by
  refine Met.ofW (cc := cX11_reply) (maxL := 3) (ret := none) (by decide) rfl ?_
  intro p e s m args below meth c s₁ Bd hml hv
  obtain ⟨rfl, hH0, hX, hG, hK2, hK5, hg_r0, hg_r1, hg_bo, hg_pa, hg_ou, hP0, hI0, hLC0, hLS0, hp0, hp1, hp2, hp3, hp4⟩ := hv
  have hK := hG.1
  have hx := Bd.exec
  have hb := Bd.bytes
  have hr := Bd.returns
  have hts := atoms_spec (ws := (jw yX11_reply cX11_reply 3 none)) Bd.pre
  have htw : ∀ w ∈ jWl, w.before _ s = true := fun w h => hts w (List.mem_cons_of_mem _ h)
  have hown : s.vm.findClass RX11 = some m.cls := findClass_of_methodNamed Bd.named
  have hlocks := Bd.notSynchronized
  obtain ⟨Q, hQ⟩ : ∃ Q, Q = MQ below (va_Qv (S := Int32 × Nat × Nat × jT) (fun u => 0 ≤ u.1.toInt ∧ u.1.toInt ≤ u.2.2.1 ∧ n_pa ≤ u.2.2.1 ∧ u.2.2.1 ≤ 1048576 ∧ jPw u.2.2.1) (fun u t => jRa (dC, dI) B base G0 u.2.2.2 EX11_reply H0 ((u.2.2.1 - n_pa) / 16) (2 * (u.2.2.1 - n_pa)) [(bo, 2, 1, .int u.1), (bo, 2, 0, .ref u.2.1)] t.heap ∧ u.2.2.2 u.2.1 = some (196, u.2.2.1) ∧ (jNk [0, 1, 2, 3, 4, 5, 6, 7, 8, 9, 10, 11, 12, 13, 14, 15, 16, 17, 175]) G0 u.2.2.2 ∧ jOl (dC, dI) G0 2 [bo, ou] H0 t.heap ∧ jIs (dC, dI) u.2.2.2 t.heap [(jFy, jYb dC dI u.2.2.2), (jFs11, jSef dC dI u.2.2.2)]) (jA base)) ([.ref r0, .ref r1] : List Value).toArray s (LC - H0.size) (LS - jTot H0) (jA base) := ⟨_, rfl⟩
  rw [← hQ]
  have hl := lv_entry ([.ref r0, .ref r1]) (n := 3) (Nat.le_of_ble_eq_true rfl)
  rw [lg_entry_eq]
  generalize (lg_sl ([.ref r0, .ref r1]) ++ List.replicate (3 - (lg_sl ([.ref r0, .ref r1])).length) Slot.unset).toArray = ls at hl ⊢
  have hl : lv_has ls 3 [(0, .ref r0), (1, .ref r1)] := hl
  generalize hR : (headSpec (jw yX11_reply cX11_reply 3 none) ({ frames := 7, cells := LC - H0.size, slots := LS - jTot H0, locals := 219 })).room = R
  subst hH0
  have hh : jSt (dC, dI) B base G0 G0 EX11_reply s.heap 0 0 [(r0, 13, 4, .ref bo), (bo, 2, 1, .int pc), (bo, 2, 0, .ref pa), (r0, 13, 3, .ref ou)] [] [(jFy, jYb dC dI G0), (jFs11, jSef dC dI G0)] s.heap [] := jSt.start hX hP0 jMc.nil hI0
  clear hX hP0
  have hk0 : (0 : Int32).toInt = 0 := by decide
  have hk1 : (1 : Int32).toInt = 1 := by decide
  have hk125 : (125 : Int32).toInt = 125 := by decide
  have hly_7_2 := htw (u_lay RX5 TX5 2) (jWc_wsX50 _ (u_in_lay (by decide)))
  have hly_10_1 := htw (u_lay RX8 TX8 1) (jWc_wsX80 _ (u_in_lay (by decide)))
  have hly_10_2 := htw (u_lay RX8 TX8 2) (jWc_wsX80 _ (u_in_lay (by decide)))
  have hly_10_3 := htw (u_lay RX8 TX8 3) (jWc_wsX80 _ (u_in_lay (by decide)))
  have hly_10_4 := htw (u_lay RX8 TX8 4) (jWc_wsX80 _ (u_in_lay (by decide)))
  have hly_13_4 := htw (u_lay RX11 TX11 4) (jWc_wsX110 _ (u_in_lay (by decide)))
  have hly_13_5 := htw (u_lay RX11 TX11 5) (jWc_wsX110 _ (u_in_lay (by decide)))
  have hly_13_6 := htw (u_lay RX11 TX11 6) (jWc_wsX110 _ (u_in_lay (by decide)))
  have hlk_432 := (htw (.fieldLink RX11 432 "ProofServer$Request" "about" "LProofServer$Document;") (jWr_27 _ (List.mem_of_getElem? (i := 14) rfl)))
  have hlk_41 := (htw (.fieldLink RX11 41 "ProofServer" "kernel" "LProofServer$Kernel;") (jWr_2 _ (List.mem_of_getElem? (i := 5) rfl)))
  have hlk_217 := (htw (.fieldLink RX11 217 "ProofServer$Kernel" "start" "LProofServer$State;") (jWr_30 _ (List.mem_of_getElem? (i := 6) rfl)))
  have hlk_438 := (htw (.fieldLink RX11 438 "ProofServer$Request" "needed" "I") (jWr_27 _ (List.mem_of_getElem? (i := 15) rfl)))
  obtain ⟨str289, rstr289, hstr2890⟩ := hG.str (o := RX11) (k := 289) (tx := ",\"result\":") (List.mem_of_getElem? (i := 866) (by decide +kernel))
  have hstr289 : jStr base str289 10 s s.heap := hstr2890
  have hlk_443 := (htw (.fieldLink RX11 443 "ProofServer$Request" "isStatement" "Z") (jWr_30 _ (List.mem_of_getElem? (i := 7) rfl)))
  have hlk_54 := (htw (.fieldLink RX11 54 "ProofServer" "printer" "LProofServer$Printer;") (jWr_2 _ (List.mem_of_getElem? (i := 10) rfl)))
  have hlk_451 := (htw (.fieldLink RX11 451 "ProofServer$Request" "name" "I") (jWr_30 _ (List.mem_of_getElem? (i := 8) rfl)))
  have hlk_35 := (htw (.fieldLink RX11 35 "ProofServer" "body" "LProofServer$Bytes;") (jWr_2 _ (List.mem_of_getElem? (i := 1) rfl)))
  have hbs : base ≤ s.heap.size := Nat.le_of_lt (Nat.lt_of_le_of_lt (hh.ab hg_r0).1 (hh.ab hg_r0).2)
  have hRc : R.cells = LC - s.heap.size := by rw [← hR]; rfl
  have hRs : R.slots = LS - jTot s.heap := by rw [← hR]; rfl
  have hh_1 := hh.addI (jOl.ie (dC := dC) (dI := dI) (G0 := G0) (k := 2) (rs := [bo, ou]) (H0 := s.heap) (F := [(2, 0), (2, 1)]) (C := RX0) (T := TX0) (N := 2) rfl (by decide) hh.2.2.2.2.1 (jOl.rf))
  clear hh
  refine lv_aload_n hx hb dX11_reply_0 rfl (lv_at hl 1 rfl) ?_
  obtain ⟨v_2, hv_2, hh_3⟩ := hh_1.pin (C := RX8) (T := TX8) (N := 5) hB10 rfl (by decide) hg_r1 (i := 1) (by decide) rfl
  clear hh_1
  rcases hv_2 with rfl | ⟨about_4, rfl, hg_about_4⟩
  · refine j7_read hx hb hown hK (C := RX8) (T := TX8) (N := 5) rfl hly_10_1 hlk_432 (hh_3.at 0 rfl) dX11_reply_1 ?_
    refine lv_ifnonnullN hx hb dX11_reply_4 ?_
    refine lv_aload_n hx hb dX11_reply_7 rfl (lv_at hl 0 rfl) ?_
    obtain ⟨v_5, hv_5, hh_6⟩ := hh_3.pin (C := RX11) (T := TX11) (N := 19) hB13 rfl (by decide) hg_r0 (i := 5) (by decide) rfl
    clear hh_3
    obtain ⟨kernel_7, rfl, hg_kernel_7⟩ := hv_5
    refine j7_read hx hb hown hK (C := RX11) (T := TX11) (N := 19) rfl hly_13_5 hlk_41 (hh_6.at 0 rfl) dX11_reply_8 ?_
    obtain ⟨v_8, hv_8, hh_9⟩ := hh_6.pin (C := RX5) (T := TX5) (N := 11) hB7 rfl (by decide) hg_kernel_7 (i := 2) (by decide) rfl
    clear hh_6
    obtain ⟨start_10, rfl, hg_start_10⟩ := hv_8
    refine j7_read hx hb hown hK (C := RX5) (T := TX5) (N := 11) rfl hly_7_2 hlk_217 (hh_9.at 0 rfl) dX11_reply_11 ?_
    refine lv_goto (tgt := 35) hx hb dX11_reply_14 (by decide) ?_
    refine lv_astore_n (lv' := [(2, .ref start_10), (0, .ref r0), (1, .ref r1)]) hx hb dX11_reply_35 rfl hl (by decide) rfl (fun ls hl => ?_)
    refine lv_aload_n hx hb dX11_reply_36 rfl (lv_at hl 1 rfl) ?_
    refine lv_aload_n hx hb dX11_reply_37 rfl (lv_at hl 2 rfl) ?_
    refine j_ldcSw hx hb hown rstr289 dX11_reply_38 ?_
    have hsz_11 := hh_9.2.2.2.2.2.1
    have htt_11 := hh_9.2.2.2.2.2.2.1
    refine W.room (fun hrc_11 hrs_11 => ?_)
    refine va_callv (A0 := jA base) (H0 := s.heap) (va_runV (As := [.ref r1, .ref str289]) (rest := []) ⟨hx, hb, hml, hown, hts⟩ (uX11_beginAnswer l dC dI ca base B hB hAp hB2 hB10 hB13 hB17 hB196 hB199 G0 s.heap r0 r1 str289 10 bo pc pa n_pa LC LS) (cwV 2 hts (jgV (jWr_26 _ (List.mem_of_getElem? (i := 7) rfl)) (jWr_26 _ (List.mem_of_getElem? (i := 8) rfl)) (jWr_26 _ (List.mem_of_getElem? (i := 9) rfl)) (jWr_1 _ (List.mem_of_getElem? (i := 2) rfl)) (jWr_26 _ (List.mem_of_getElem? (i := 10) rfl))) rfl rfl rfl (by decide +kernel) ⟨by rw [← hR]; exact Nat.le_of_ble_eq_true rfl, by rw [← hR]; exact Nat.le_of_ble_eq_true rfl⟩) ⟨fun a U g mk q => by obtain ⟨q0, q1, q2, qK, q10, q11, q12, q13, q14, q15, q16, q17⟩ := q; exact ⟨q0, q1, q2, jG.calling g mk a qK, (q10.moved (Vm.Alike.refl U.vm)), q11, q12, q13, q14, q15, q16, q17⟩, hh_9.recv (C := RX11) (T := TX11) (N := 19) hB13 rfl (by decide) hg_r0 hK, fun U hU hW => ⟨rfl, hU, hh_9.2.1, hG.step hW hU hh_9.1, (hstr289.moved hW.alike).kept hh_9.1.2.1, hg_r1, hg_r0, hg_bo, hg_pa, (hh_9.2.2.1.sub (L1 := [(r0, 13, 4, .ref bo), (bo, 2, 1, .int pc), (bo, 2, 0, .ref pa)]) [3, 4, 5] rfl), (hh_9.2.2.2.2.2.2.2.2.sub (L1 := [(jFy, jYb dC dI G0)]) [1] rfl), (by omega), (by omega), ⟨(by first | omega | rfl | assumption | fail), (by first | omega | rfl | assumption | fail), (by first | omega | rfl | assumption | fail), (by first | omega | rfl | assumption | fail), (by first | assumption | fail | omega), (by first | omega | rfl | assumption | fail)⟩⟩⟩ rfl rfl hl.1 rfl (lv_room (Nat.le_of_ble_eq_true rfl)) dX11_reply_41 ⟨by rw [hRc]; omega, by rw [hRs]; omega⟩) hh_9.1 (fun q _ h => h) (fun q h => h) (fun u_11 t_11 H_11 locs_11 ht_11 hvm_11 hr_12 hb_11 hz_11 hk_11 hS_11 => ?_)
    obtain ⟨qc_11, qa_11, m_qa_11, G_11⟩ := u_11
    rw [ht_11] at hb_11
    simp only at hb_11
    obtain ⟨⟨hb_111, hb_112, hb_113, hb_114, hb_115, hb_116⟩, hgq_11_0, hN_11, hbO_11, hbE_11⟩ := hb_11
    have hh_11 : jSt (dC, dI) B base G0 G_11 EX11_reply s.heap (0 + ((m_qa_11 - n_pa) / 16)) (0 + (2 * (m_qa_11 - n_pa))) [(bo, 2, 1, .int qc_11), (bo, 2, 0, .ref qa_11), (kernel_7, 7, 2, .ref start_10), (r0, 13, 5, .ref kernel_7), (r1, 10, 1, .null), (r0, 13, 4, .ref bo), (r0, 13, 3, .ref ou)] [] [(jFs11, jSef dC dI G0)] H_11 locs_11 := (hh_9.callG hb_111 hb_112 hb_113 hb_114 hb_115 hS_11 rfl (L1 := [(kernel_7, 7, 2, .ref start_10), (r0, 13, 5, .ref kernel_7), (r1, 10, 1, .null), (r0, 13, 4, .ref bo), (r0, 13, 3, .ref ou)]) [0, 1, 2, 3, 6] rfl rfl (M1 := []) [] rfl rfl (I1 := [(jFs11, jSef dC dI G0)]) [2] rfl rfl).more hb_116
    have hNn_11 : (jNk [0, 1, 2, 3, 4, 5, 6, 7, 8, 9, 10, 11, 12, 13, 14, 15, 16, 17, 175]) G0 G_11 := (jNk.rf).tr hN_11
    have hg_13 := hb_112 _ _ hg_start_10
    have hg_14 := hb_112 _ _ hg_r0
    have hg_15 := hb_112 _ _ hg_r1
    have hg_16 := hb_112 _ _ hg_kernel_7
    have hg_17 := hb_112 _ _ hg_bo
    have hg_18 := hb_112 _ _ hg_ou
    have hd_19 := jSef.grow (hh_11.iv 0 rfl) hb_112 hN_11 (by decide)
    have hh_20 := hh_11.sub (L1 := [(bo, 2, 1, .int qc_11), (bo, 2, 0, .ref qa_11), (kernel_7, 7, 2, .ref start_10), (r0, 13, 5, .ref kernel_7), (r1, 10, 1, .null), (r0, 13, 4, .ref bo), (r0, 13, 3, .ref ou)]) [0, 1, 2, 3, 4, 5, 6] rfl (M1 := []) [] rfl (I1 := []) [] rfl
    clear hh_11
    have hh_21 := hh_20.addI (jSef.ie hd_19)
    clear hh_20
    have hh_22 := hh_21.addIs hbE_11
    have hd_23 := jOl.trL (hh_9.iv 0 rfl) hh_9.2.2.2.2.1 hbO_11 (by simp)
    have hh_24 := hh_22.addI (jOl.ie (dC := dC) (dI := dI) (G0 := G0) (k := 2) (rs := [bo, ou]) (H0 := s.heap) (F := [(2, 0), (2, 1)]) (C := RX0) (T := TX0) (N := 2) rfl (by decide) hh_22.2.2.2.2.1 (hd_23))
    clear hh_22
    try simp only at hr_12
    obtain ⟨hr_12_0, hr_12_1, hr_12_2, hr_12_3, hr_12_4⟩ := hr_12
    have hh_25 := hh_24.wk (zc1 := (m_qa_11 - n_pa) / 16) (zs1 := 2 * (m_qa_11 - n_pa)) (by omega) (by omega)
    clear hh_24
    try clear hsz_11 htt_11 hrc_11 hrs_11
    try clear hb_114 hb_115
    refine lv_aload_n hx hb dX11_reply_44 rfl (lv_at hl 2 rfl) ?_
    obtain ⟨v_26, hv_26, hh_27⟩ := hh_25.pin (C := RX8) (T := TX8) (N := 5) hB10 rfl (by decide) hg_15 (i := 3) (by decide) rfl
    clear hh_25
    obtain ⟨isStatement_28, rfl, hzisStatement_28⟩ := hv_26
    have hzisStatement_28' := jb_01 hzisStatement_28
    refine j7_read hx hb hown hK (C := RX8) (T := TX8) (N := 5) rfl hly_10_3 hlk_443 (hh_27.at 0 rfl) dX11_reply_45 ?_
    refine lv_if_eq (tgt := 70) hx hb dX11_reply_48 (by decide) (fun c_29 => ?_) (fun c_29 => ?_)
    · skip
      have c_29' : isStatement_28.toInt = 0 := jb_eq (rfl) ((by decide)) c_29
      refine lv_aload_n hx hb dX11_reply_70 rfl (lv_at hl 1 rfl) ?_
      obtain ⟨v_30, hv_30, hh_31⟩ := hh_27.pin (C := RX11) (T := TX11) (N := 19) hB13 rfl (by decide) hg_14 (i := 6) (by decide) rfl
      clear hh_27
      obtain ⟨printer_32, rfl, hg_printer_32⟩ := hv_30
      refine j7_read hx hb hown hK (C := RX11) (T := TX11) (N := 19) rfl hly_13_6 hlk_54 (hh_31.at 0 rfl) dX11_reply_71 ?_
      refine lv_aload_n hx hb dX11_reply_74 rfl (lv_at hl 0 rfl) ?_
      refine lv_aload_n hx hb dX11_reply_75 rfl (lv_at hl 1 rfl) ?_
      refine j7_read hx hb hown hK (C := RX11) (T := TX11) (N := 19) rfl hly_13_4 hlk_35 (hh_31.at 7 rfl) dX11_reply_76 ?_
      have hsz_33 := hh_31.2.2.2.2.2.1
      have htt_33 := hh_31.2.2.2.2.2.2.1
      refine W.room (fun hrc_33 hrs_33 => ?_)
      refine va_callv (A0 := jA base) (H0 := s.heap) (va_runV (As := [.ref start_10, .ref bo]) (rest := []) ⟨hx, hb, hml, hown, hts⟩ (uX7_proof l dC dI ca base B hB hAp hB2 hB5 hB8 hB9 hB11 hB101 hB102 hB132 hB196 hB214 hB280 hB286 hB287 hB288 hB313 G_11 H_11 printer_32 start_10 bo qc_11 qa_11 m_qa_11 LC LS) (cwV 2 hts (jgV (jWr_32 _ (List.mem_of_getElem? (i := 21) rfl)) (jWr_32 _ (List.mem_of_getElem? (i := 22) rfl)) (jWr_32 _ (List.mem_of_getElem? (i := 23) rfl)) (jWr_2 _ (List.mem_of_getElem? (i := 8) rfl)) (jWr_33 _ (List.mem_of_getElem? (i := 0) rfl))) rfl rfl rfl (by decide +kernel) ⟨by rw [← hR]; exact Nat.le_of_ble_eq_true rfl, by rw [← hR]; exact Nat.le_of_ble_eq_true rfl⟩) ⟨fun a U g mk q => by obtain ⟨q0, q1, q2, qK, q10, q11, q12, q13, q14, q15, q16, q17⟩ := q; exact ⟨q0, q1, q2, jG.calling g mk a qK, (va_K.moved (Vm.Alike.refl U.vm) q10), (jK5.moved (Vm.Alike.refl U.vm) q11), q12, q13, q14, q15, q16, q17⟩, hh_31.recv (C := RX7) (T := TX7) (N := 5) hB9 rfl (by decide) hg_printer_32 hK, fun U hU hW => ⟨rfl, hU, hh_31.2.1, hG.step hW hU hh_31.1, va_K.moved hW.alike hK2, jK5.moved hW.alike hK5, hg_17, hg_13, hg_printer_32, hgq_11_0, (hh_31.2.2.1.sub (L1 := [(bo, 2, 1, .int qc_11), (bo, 2, 0, .ref qa_11)]) [2, 3] rfl), (by omega), (by omega), ⟨(by first | omega | rfl | assumption | fail), (by first | omega | rfl | assumption | fail), (by first | omega | rfl | assumption | fail), (by first | omega | rfl | assumption | fail), (by first | assumption | fail | omega)⟩⟩⟩ rfl rfl hl.1 rfl (lv_room (Nat.le_of_ble_eq_true rfl)) dX11_reply_79 ⟨by rw [hRc]; omega, by rw [hRs]; omega⟩) hh_31.1 (fun q _ h => h) (fun q h => h) (fun u_33 t_33 H_33 locs_33 ht_33 hvm_33 hr_34 hb_33 hz_33 hk_33 hS_33 => ?_)
      obtain ⟨qc_33, qa_33, m_qa_33, G_33⟩ := u_33
      rw [ht_33] at hb_33
      simp only at hb_33
      obtain ⟨⟨hb_331, hb_332, hb_333, hb_334, hb_335, hb_336⟩, hgq_33_0, hN_33, hbO_33⟩ := hb_33
      have hy_35 := hh_31.iv 1 rfl
      have hh_33 : jSt (dC, dI) B base G0 G_33 EX11_reply s.heap (((m_qa_11 - n_pa) / 16) + ((m_qa_33 - m_qa_11) / 16)) ((2 * (m_qa_11 - n_pa)) + (2 * (m_qa_33 - m_qa_11))) [(bo, 2, 1, .int qc_33), (bo, 2, 0, .ref qa_33), (r0, 13, 6, .ref printer_32), (r1, 10, 3, .int isStatement_28), (kernel_7, 7, 2, .ref start_10), (r0, 13, 5, .ref kernel_7), (r1, 10, 1, .null), (r0, 13, 4, .ref bo), (r0, 13, 3, .ref ou)] [] [(jFs11, jSef dC dI G_11)] H_33 locs_33 := (hh_31.callG hb_331 hb_332 hb_333 hb_334 hb_335 hS_33 rfl (L1 := [(r0, 13, 6, .ref printer_32), (r1, 10, 3, .int isStatement_28), (kernel_7, 7, 2, .ref start_10), (r0, 13, 5, .ref kernel_7), (r1, 10, 1, .null), (r0, 13, 4, .ref bo), (r0, 13, 3, .ref ou)]) [0, 1, 4, 5, 6, 7, 8] rfl rfl (M1 := []) [] rfl rfl (I1 := [(jFs11, jSef dC dI G_11)]) [2] rfl rfl).more hb_336
      have hNn_33 : (jNk [0, 1, 2, 3, 4, 5, 6, 7, 8, 9, 10, 11, 12, 13, 14, 15, 16, 17, 175]) G0 G_33 := (hNn_11).tr hN_33
      have hg_36 := hb_332 _ _ hg_13
      have hg_37 := hb_332 _ _ hg_14
      have hg_38 := hb_332 _ _ hg_15
      have hg_39 := hb_332 _ _ hg_printer_32
      have hg_40 := hb_332 _ _ hg_16
      have hg_41 := hb_332 _ _ hg_17
      have hg_42 := hb_332 _ _ hg_18
      have hd_43 := jSef.grow (hh_33.iv 0 rfl) hb_332 hN_33 (by decide)
      have hh_44 := hh_33.sub (L1 := [(bo, 2, 1, .int qc_33), (bo, 2, 0, .ref qa_33), (r0, 13, 6, .ref printer_32), (r1, 10, 3, .int isStatement_28), (kernel_7, 7, 2, .ref start_10), (r0, 13, 5, .ref kernel_7), (r1, 10, 1, .null), (r0, 13, 4, .ref bo), (r0, 13, 3, .ref ou)]) [0, 1, 2, 3, 4, 5, 6, 7, 8] rfl (M1 := []) [] rfl (I1 := []) [] rfl
      clear hh_33
      have hh_45 := hh_44.addI (jSef.ie hd_43)
      clear hh_44
      have hd_46 := jOl.trO (hh_31.iv 0 rfl) hh_31.2.2.2.2.1 hbO_33 (by simp)
      have hh_47 := hh_45.addI (jOl.ie (dC := dC) (dI := dI) (G0 := G0) (k := 2) (rs := [bo, ou]) (H0 := s.heap) (F := [(2, 0), (2, 1)]) (C := RX0) (T := TX0) (N := 2) rfl (by decide) hh_45.2.2.2.2.1 (hd_46))
      clear hh_45
      have hyp_33 : qc_33.toInt ≤ (m_qa_33 : Nat) ∧ m_qa_33 ≤ 1048576 := by (try simp only at hr_34); omega
      have hy_48 := jYb.own hy_35 hbO_33 hb_332 hN_33 (by decide) (fun _ => ⟨_, _, _, hh_47.at 0 rfl, hh_47.at 1 rfl, hgq_33_0, hyp_33⟩)
      have hh_49 := hh_47.addI (jYb.ie hy_48)
      clear hh_47
      try simp only at hr_34
      obtain ⟨hr_34_0, hr_34_1, hr_34_2, hr_34_3, hr_34_4⟩ := hr_34
      have hh_50 := hh_49.wk (zc1 := (m_qa_33 - n_pa) / 16) (zs1 := 2 * (m_qa_33 - n_pa)) (by omega) (by omega)
      clear hh_49
      try clear hsz_33 htt_33 hrc_33 hrs_33
      try clear hb_334 hb_335
      refine lv_aload_n hx hb dX11_reply_82 rfl (lv_at hl 1 rfl) ?_
      refine j7_read hx hb hown hK (C := RX11) (T := TX11) (N := 19) rfl hly_13_4 hlk_35 (hh_50.at 7 rfl) dX11_reply_83 ?_
      refine lv_bipush (v := 125) hx hb dX11_reply_86 (by decide) ?_
      have hsz_51 := hh_50.2.2.2.2.2.1
      have htt_51 := hh_50.2.2.2.2.2.2.1
      refine W.room (fun hrc_51 hrs_51 => ?_)
      refine va_callv (A0 := jA base) (H0 := s.heap) (va_runV (As := [.int 125]) (rest := []) ⟨hx, hb, hml, hown, hts⟩ (uX0_put l dC dI ca base B hB hAp hB2 hB196 G_33 H_33 bo 125 qc_33 qa_33 m_qa_33 LC LS) (cwV 1 hts (jgV (jWr_15 _ (List.mem_of_getElem? (i := 23) rfl)) (jWr_16 _ (List.mem_of_getElem? (i := 0) rfl)) (jWr_16 _ (List.mem_of_getElem? (i := 1) rfl)) (jWr_1 _ (List.mem_of_getElem? (i := 14) rfl)) (jWr_16 _ (List.mem_of_getElem? (i := 2) rfl))) rfl rfl rfl (by decide +kernel) ⟨by rw [← hR]; exact Nat.le_of_ble_eq_true rfl, by rw [← hR]; exact Nat.le_of_ble_eq_true rfl⟩) ⟨fun a U g mk q => by obtain ⟨q0, q1, q2, qK, q10, q11, q12, q13⟩ := q; exact ⟨q0, q1, q2, jG.calling g mk a qK, q10, q11, q12, q13⟩, hh_50.recv (C := RX0) (T := TX0) (N := 2) hB2 rfl (by decide) hg_41 hK, fun U hU hW => ⟨rfl, hU, hh_50.2.1, hG.step hW hU hh_50.1, hg_41, hgq_33_0, (hh_50.2.2.1.sub (L1 := [(bo, 2, 1, .int qc_33), (bo, 2, 0, .ref qa_33)]) [0, 1] rfl), (by omega), (by omega), ⟨(by first | omega | rfl | assumption | fail), (by first | omega | rfl | assumption | fail), (by first | omega | rfl | assumption | fail), (by first | omega | rfl | assumption | fail), (by first | assumption | fail | omega)⟩⟩⟩ rfl rfl hl.1 rfl (lv_room (Nat.le_of_ble_eq_true rfl)) dX11_reply_88 ⟨by rw [hRc]; omega, by rw [hRs]; omega⟩) hh_50.1 (fun q _ h => h) (fun q h => h) (fun u_51 t_51 H_51 locs_51 ht_51 hvm_51 hr_52 hb_51 hz_51 hk_51 hS_51 => ?_)
      obtain ⟨qc_51, qa_51, m_qa_51, G_51⟩ := u_51
      rw [ht_51] at hb_51
      simp only at hb_51
      obtain ⟨⟨hb_511, hb_512, hb_513, hb_514, hb_515, hb_516⟩, hgq_51_0, hN_51, hbO_51⟩ := hb_51
      have hy_53 := hh_50.iv 0 rfl
      have hh_51 : jSt (dC, dI) B base G0 G_51 EX11_reply s.heap (((m_qa_33 - n_pa) / 16) + ((m_qa_51 - m_qa_33) / 16)) ((2 * (m_qa_33 - n_pa)) + (2 * (m_qa_51 - m_qa_33))) [(bo, 2, 1, .int qc_51), (bo, 2, 0, .ref qa_51), (r0, 13, 6, .ref printer_32), (r1, 10, 3, .int isStatement_28), (kernel_7, 7, 2, .ref start_10), (r0, 13, 5, .ref kernel_7), (r1, 10, 1, .null), (r0, 13, 4, .ref bo), (r0, 13, 3, .ref ou)] [] [(jFs11, jSef dC dI G_33)] H_51 locs_51 := (hh_50.callG hb_511 hb_512 hb_513 hb_514 hb_515 hS_51 rfl (L1 := [(r0, 13, 6, .ref printer_32), (r1, 10, 3, .int isStatement_28), (kernel_7, 7, 2, .ref start_10), (r0, 13, 5, .ref kernel_7), (r1, 10, 1, .null), (r0, 13, 4, .ref bo), (r0, 13, 3, .ref ou)]) [2, 3, 4, 5, 6, 7, 8] rfl rfl (M1 := []) [] rfl rfl (I1 := [(jFs11, jSef dC dI G_33)]) [2] rfl rfl).more hb_516
      have hNn_51 : (jNk [0, 1, 2, 3, 4, 5, 6, 7, 8, 9, 10, 11, 12, 13, 14, 15, 16, 17, 175]) G0 G_51 := (hNn_33).tr hN_51
      have hg_54 := hb_512 _ _ hg_36
      have hg_55 := hb_512 _ _ hg_37
      have hg_56 := hb_512 _ _ hg_38
      have hg_57 := hb_512 _ _ hg_39
      have hg_58 := hb_512 _ _ hg_40
      have hg_59 := hb_512 _ _ hg_41
      have hg_60 := hb_512 _ _ hg_42
      have hd_61 := jSef.grow (hh_51.iv 0 rfl) hb_512 hN_51 (by decide)
      have hh_62 := hh_51.sub (L1 := [(bo, 2, 1, .int qc_51), (bo, 2, 0, .ref qa_51), (r0, 13, 6, .ref printer_32), (r1, 10, 3, .int isStatement_28), (kernel_7, 7, 2, .ref start_10), (r0, 13, 5, .ref kernel_7), (r1, 10, 1, .null), (r0, 13, 4, .ref bo), (r0, 13, 3, .ref ou)]) [0, 1, 2, 3, 4, 5, 6, 7, 8] rfl (M1 := []) [] rfl (I1 := []) [] rfl
      clear hh_51
      have hh_63 := hh_62.addI (jSef.ie hd_61)
      clear hh_62
      have hd_64 := jOl.trO (hh_50.iv 1 rfl) hh_50.2.2.2.2.1 hbO_51 (by simp)
      have hh_65 := hh_63.addI (jOl.ie (dC := dC) (dI := dI) (G0 := G0) (k := 2) (rs := [bo, ou]) (H0 := s.heap) (F := [(2, 0), (2, 1)]) (C := RX0) (T := TX0) (N := 2) rfl (by decide) hh_63.2.2.2.2.1 (hd_64))
      clear hh_63
      have hyp_51 : qc_51.toInt ≤ (m_qa_51 : Nat) ∧ m_qa_51 ≤ 1048576 := by (try simp only at hr_52); omega
      have hy_66 := jYb.own hy_53 hbO_51 hb_512 hN_51 (by decide) (fun _ => ⟨_, _, _, hh_65.at 0 rfl, hh_65.at 1 rfl, hgq_51_0, hyp_51⟩)
      have hh_67 := hh_65.addI (jYb.ie hy_66)
      clear hh_65
      try simp only at hr_52
      obtain ⟨hr_52_0, hr_52_1, hr_52_2, hr_52_3, hr_52_4⟩ := hr_52
      have hh_68 := hh_67.wk (zc1 := (m_qa_51 - n_pa) / 16) (zs1 := 2 * (m_qa_51 - n_pa)) (by omega) (by omega)
      clear hh_67
      try clear hsz_51 htt_51 hrc_51 hrs_51
      try clear hb_514 hb_515
      refine lv_aload_n hx hb dX11_reply_91 rfl (lv_at hl 1 rfl) ?_
      obtain ⟨v_71, hv_71, hh_72⟩ := hh_68.pin (C := RX0) (T := TX0) (N := 2) hB2 rfl (by decide) hg_60 (i := 1) (by decide) rfl
      obtain ⟨count_73, rfl, hlocount_73, hhicount_73, hfxcount_73⟩ := hv_71
      obtain ⟨v_74, hv_74, hh_75⟩ := hh_72.pin (C := RX0) (T := TX0) (N := 2) hB2 rfl (by decide) hg_60 (i := 0) (by decide) rfl
      obtain ⟨row_76, nrow_76, rfl, hg_row_76, hlorow_76, hhirow_76, hpwrow_76, hfxrow_76⟩ := jBr.k6 (by decide) hv_74
      have hsz_69 := hh_75.2.2.2.2.2.1
      have htt_69 := hh_75.2.2.2.2.2.2.1
      refine W.room (fun hrc_69 hrs_69 => ?_)
      refine va_callv (A0 := jA base) (H0 := s.heap) (va_runV (As := []) (rest := []) ⟨hx, hb, hml, hown, hts⟩ (uX11_send l dC dI ca base B hB hAp hB2 hB4 hB13 hB17 hB196 hB199 G_51 H_51 r0 bo qc_51 qa_51 m_qa_51 ou count_73 row_76 nrow_76) (cwV 0 hts (jgV (jWr_26 _ (List.mem_of_getElem? (i := 20) rfl)) (jWr_26 _ (List.mem_of_getElem? (i := 21) rfl)) (jWr_26 _ (List.mem_of_getElem? (i := 22) rfl)) (jWr_1 _ (List.mem_of_getElem? (i := 2) rfl)) (jWr_26 _ (List.mem_of_getElem? (i := 23) rfl))) rfl rfl rfl (by decide +kernel) ⟨by rw [← hR]; exact Nat.le_of_ble_eq_true rfl, by rw [← hR]; exact Nat.le_of_ble_eq_true rfl⟩) ⟨fun a U g mk q => by obtain ⟨q0, q1, q2, qK, q10, q11, q12, q13, q14, q15, q16, q17⟩ := q; exact ⟨q0, q1, q2, jG.calling g mk a qK, q10, q11, q12, q13, q14, q15, q16, q17⟩, hh_75.recv (C := RX11) (T := TX11) (N := 19) hB13 rfl (by decide) hg_55 hK, fun U hU hW => ⟨rfl, hU, hh_75.2.1, hG.step hW hU hh_75.1, hg_55, hg_59, hgq_51_0, hg_60, hg_row_76, (hh_75.2.2.1.sub (L1 := [(r0, 13, 4, .ref bo), (bo, 2, 1, .int qc_51), (bo, 2, 0, .ref qa_51), (r0, 13, 3, .ref ou), (ou, 2, 1, .int count_73), (ou, 2, 0, .ref row_76)]) [9, 2, 3, 10, 1, 0] rfl), (hh_75.2.2.2.2.2.2.2.2.sub (L1 := [(jFy, jYb dC dI G_51)]) [0] rfl), ⟨(by first | omega | rfl | assumption | fail), (by first | omega | rfl | assumption | fail), (by first | omega | rfl | assumption | fail), (by first | omega | rfl | assumption | fail), (by first | omega | rfl | assumption | fail), (by first | omega | rfl | assumption | fail)⟩⟩⟩ rfl rfl hl.1 rfl (lv_room (Nat.le_of_ble_eq_true rfl)) dX11_reply_92 ⟨by rw [hRc]; show _ + 0 ≤ _; omega, by rw [hRs]; show _ + 0 ≤ _; omega⟩) hh_75.1 (fun q _ h => h) (fun q h => h) (fun u_69 t_69 H_69 locs_69 ht_69 hvm_69 hr_70 hb_69 hz_69 hk_69 hS_69 => ?_)
      rw [ht_69] at hb_69
      obtain ⟨hb_69, hbE_69⟩ := hb_69
      obtain ⟨hb_69, hbO_69⟩ := hb_69
      obtain ⟨hb_691, hb_692, hb_693, hb_694, hb_695⟩ := hb_69
      have hh_69 : jSt (dC, dI) B base G0 G_51 EX11_reply s.heap ((m_qa_51 - n_pa) / 16) (2 * (m_qa_51 - n_pa)) [(r0, 13, 6, .ref printer_32), (r1, 10, 3, .int isStatement_28), (kernel_7, 7, 2, .ref start_10), (r0, 13, 5, .ref kernel_7), (r1, 10, 1, .null), (r0, 13, 4, .ref bo), (r0, 13, 3, .ref ou)] [] [(jFy, jYb dC dI G_51), (jFs11, jSef dC dI G_51)] H_69 locs_69 := (((hh_75.call hb_691 hb_692 hb_693 hb_694 hS_69 rfl (L1 := [(r0, 13, 6, .ref printer_32), (r1, 10, 3, .int isStatement_28), (kernel_7, 7, 2, .ref start_10), (r0, 13, 5, .ref kernel_7), (r1, 10, 1, .null), (r0, 13, 4, .ref bo), (r0, 13, 3, .ref ou)]) [4, 5, 6, 7, 8, 9, 10] rfl rfl (M1 := []) [] rfl rfl (I1 := [(jFs11, jSef dC dI G_51)]) [2] rfl rfl).more hb_695)).addIs hbE_69
      have hh_77 := hh_69.more (P1 := [(bo, 2, 1, .int qc_51), (bo, 2, 0, .ref qa_51)]) (jP.cons hg_59 (hbO_69 _ _ _ _ (jn1 (by first | assumption | exact Ne.symm (by assumption) | exact jnek hg_59 hg_60 (by decide))) hg_59 (hh_75.at 2 rfl)) (jP.cons hg_59 (hbO_69 _ _ _ _ (jn1 (by first | assumption | exact Ne.symm (by assumption) | exact jnek hg_59 hg_60 (by decide))) hg_59 (hh_75.at 3 rfl)) jP.nil))
      have hd_78 := jOl.trL (hh_75.iv 1 rfl) hh_75.2.2.2.2.1 hbO_69 (by simp)
      have hh_79 := hh_77.addI (jOl.ie (dC := dC) (dI := dI) (G0 := G0) (k := 2) (rs := [bo, ou]) (H0 := s.heap) (F := [(2, 0), (2, 1)]) (C := RX0) (T := TX0) (N := 2) rfl (by decide) hh_77.2.2.2.2.1 (hd_78))
      clear hh_77
      clear hh_75 ht_69 hvm_69 hz_69 hk_69 hS_69 hb_691 hb_692 hb_693 hb_694 hb_695
      clear  hbE_69
      have hsz_80 := hh_79.2.2.2.2.2.1
      have htt_80 := hh_79.2.2.2.2.2.2.1
      refine W.room (fun hrc_80 hrs_80 => ?_)
      refine W.widen (k := LC - s.heap.size) (n := LS - jTot s.heap) (by omega) (by omega) ?_
      rw [hQ]
      exact W.vret hx hb hr (fun t ht hW => ⟨⟨(qc_51, qa_51, m_qa_51, G_51), rfl, by (try dsimp only); exact ⟨(by first | omega | rfl | assumption | fail), (by first | omega | rfl | assumption | fail), (by first | omega | rfl | assumption | fail), (by first | omega | rfl | assumption | fail), (by first | assumption | fail | omega)⟩, ⟨hh_79.ra (by first | omega | (simp only; omega)) (by first | omega | (simp only; omega)) (M1 := [(bo, 2, 1, .int qc_51), (bo, 2, 0, .ref qa_51)]) [0, 1] rfl ht, hgq_51_0, hNn_51, by rw [ht]; exact hh_79.iv 0 rfl, by rw [ht]; exact hh_79.2.2.2.2.2.2.2.2.sub (L1 := [(jFy, jYb dC dI G_51), (jFs11, jSef dC dI G_51)]) [1, 2] rfl⟩⟩, by rw [ht]; try exact hh_79.1.1, fun q h9 hq => by rw [ht]; try exact hh_79.1.2.1 q h9 hq⟩) hh_79.1.2.2 dX11_reply_95
    · skip
      have c_29' : isStatement_28.toInt ≠ 0 := jb_eq_n (rfl) ((by decide)) c_29
      refine lv_aload_n hx hb dX11_reply_51 rfl (lv_at hl 1 rfl) ?_
      obtain ⟨v_81, hv_81, hh_82⟩ := hh_27.pin (C := RX11) (T := TX11) (N := 19) hB13 rfl (by decide) hg_14 (i := 6) (by decide) rfl
      clear hh_27
      obtain ⟨printer_83, rfl, hg_printer_83⟩ := hv_81
      refine j7_read hx hb hown hK (C := RX11) (T := TX11) (N := 19) rfl hly_13_6 hlk_54 (hh_82.at 0 rfl) dX11_reply_52 ?_
      refine lv_aload_n hx hb dX11_reply_55 rfl (lv_at hl 0 rfl) ?_
      refine lv_aload_n hx hb dX11_reply_56 rfl (lv_at hl 2 rfl) ?_
      obtain ⟨v_84, hv_84, hh_85⟩ := hh_82.pin (C := RX8) (T := TX8) (N := 5) hB10 rfl (by decide) hg_15 (i := 4) (by decide) rfl
      clear hh_82
      obtain ⟨name_86, rfl⟩ := hv_84
      refine j7_read hx hb hown hK (C := RX8) (T := TX8) (N := 5) rfl hly_10_4 hlk_451 (hh_85.at 0 rfl) dX11_reply_57 ?_
      refine lv_aload_n hx hb dX11_reply_60 rfl (lv_at hl 1 rfl) ?_
      refine j7_read hx hb hown hK (C := RX11) (T := TX11) (N := 19) rfl hly_13_4 hlk_35 (hh_85.at 8 rfl) dX11_reply_61 ?_
      have hsz_87 := hh_85.2.2.2.2.2.1
      have htt_87 := hh_85.2.2.2.2.2.2.1
      refine W.room (fun hrc_87 hrs_87 => ?_)
      refine va_callv (A0 := jA base) (H0 := s.heap) (va_runV (As := [.ref start_10, .int name_86, .ref bo]) (rest := []) ⟨hx, hb, hml, hown, hts⟩ (uX7_statement l dC dI ca base B hB hAp hB2 hB8 hB9 hB11 hB101 hB102 hB132 hB196 hB280 hB286 hB287 hB288 hB313 G_11 H_11 printer_83 start_10 name_86 bo qc_11 qa_11 m_qa_11 LC LS) (cwV 3 hts (jgV (jWr_30 _ (List.mem_of_getElem? (i := 13) rfl)) (jWr_30 _ (List.mem_of_getElem? (i := 14) rfl)) (jWr_30 _ (List.mem_of_getElem? (i := 15) rfl)) (jWr_2 _ (List.mem_of_getElem? (i := 8) rfl)) (jWr_30 _ (List.mem_of_getElem? (i := 16) rfl))) rfl rfl rfl (by decide +kernel) ⟨by rw [← hR]; exact Nat.le_of_ble_eq_true rfl, by rw [← hR]; exact Nat.le_of_ble_eq_true rfl⟩) ⟨fun a U g mk q => by obtain ⟨q0, q1, q2, qK, q10, q11, q12, q13, q14, q15, q16, q17⟩ := q; exact ⟨q0, q1, q2, jG.calling g mk a qK, (jK5.moved (Vm.Alike.refl U.vm) q10), q11, q12, q13, q14, q15, q16, q17⟩, hh_85.recv (C := RX7) (T := TX7) (N := 5) hB9 rfl (by decide) hg_printer_83 hK, fun U hU hW => ⟨rfl, hU, hh_85.2.1, hG.step hW hU hh_85.1, jK5.moved hW.alike hK5, hg_17, hg_13, hg_printer_83, hgq_11_0, (hh_85.2.2.1.sub (L1 := [(bo, 2, 1, .int qc_11), (bo, 2, 0, .ref qa_11)]) [3, 4] rfl), (hh_85.2.2.2.2.2.2.2.2.sub (L1 := [(jFs11, jSef dC dI G_11)]) [2] rfl), (by omega), (by omega), ⟨(by first | omega | rfl | assumption | fail), (by first | omega | rfl | assumption | fail), (by first | omega | rfl | assumption | fail), (by first | omega | rfl | assumption | fail), (by first | assumption | fail | omega)⟩⟩⟩ rfl rfl hl.1 rfl (lv_room (Nat.le_of_ble_eq_true rfl)) dX11_reply_64 ⟨by rw [hRc]; omega, by rw [hRs]; omega⟩) hh_85.1 (fun q _ h => h) (fun q h => h) (fun u_87 t_87 H_87 locs_87 ht_87 hvm_87 hr_88 hb_87 hz_87 hk_87 hS_87 => ?_)
      obtain ⟨qc_87, qa_87, m_qa_87, G_87⟩ := u_87
      rw [ht_87] at hb_87
      simp only at hb_87
      obtain ⟨⟨hb_871, hb_872, hb_873, hb_874, hb_875, hb_876⟩, hgq_87_0, hN_87, hbO_87, hbE_87⟩ := hb_87
      have hy_89 := hh_85.iv 1 rfl
      have hh_87 : jSt (dC, dI) B base G0 G_87 EX11_reply s.heap (((m_qa_11 - n_pa) / 16) + ((m_qa_87 - m_qa_11) / 16)) ((2 * (m_qa_11 - n_pa)) + (2 * (m_qa_87 - m_qa_11))) [(bo, 2, 1, .int qc_87), (bo, 2, 0, .ref qa_87), (r1, 10, 4, .int name_86), (r0, 13, 6, .ref printer_83), (r1, 10, 3, .int isStatement_28), (kernel_7, 7, 2, .ref start_10), (r0, 13, 5, .ref kernel_7), (r1, 10, 1, .null), (r0, 13, 4, .ref bo), (r0, 13, 3, .ref ou)] [] [] H_87 locs_87 := (hh_85.callG hb_871 hb_872 hb_873 hb_874 hb_875 hS_87 rfl (L1 := [(r1, 10, 4, .int name_86), (r0, 13, 6, .ref printer_83), (r1, 10, 3, .int isStatement_28), (kernel_7, 7, 2, .ref start_10), (r0, 13, 5, .ref kernel_7), (r1, 10, 1, .null), (r0, 13, 4, .ref bo), (r0, 13, 3, .ref ou)]) [0, 1, 2, 5, 6, 7, 8, 9] rfl rfl (M1 := []) [] rfl rfl (I1 := []) [] rfl rfl).more hb_876
      have hNn_87 : (jNk [0, 1, 2, 3, 4, 5, 6, 7, 8, 9, 10, 11, 12, 13, 14, 15, 16, 17, 175]) G0 G_87 := (hNn_11).tr hN_87
      have hg_90 := hb_872 _ _ hg_13
      have hg_91 := hb_872 _ _ hg_14
      have hg_92 := hb_872 _ _ hg_15
      have hg_93 := hb_872 _ _ hg_printer_83
      have hg_94 := hb_872 _ _ hg_16
      have hg_95 := hb_872 _ _ hg_17
      have hg_96 := hb_872 _ _ hg_18
      have hh_97 := hh_87.addIs hbE_87
      have hd_98 := jOl.trO (hh_85.iv 0 rfl) hh_85.2.2.2.2.1 hbO_87 (by simp)
      have hh_99 := hh_97.addI (jOl.ie (dC := dC) (dI := dI) (G0 := G0) (k := 2) (rs := [bo, ou]) (H0 := s.heap) (F := [(2, 0), (2, 1)]) (C := RX0) (T := TX0) (N := 2) rfl (by decide) hh_97.2.2.2.2.1 (hd_98))
      clear hh_97
      have hyp_87 : qc_87.toInt ≤ (m_qa_87 : Nat) ∧ m_qa_87 ≤ 1048576 := by (try simp only at hr_88); omega
      have hy_100 := jYb.own hy_89 hbO_87 hb_872 hN_87 (by decide) (fun _ => ⟨_, _, _, hh_99.at 0 rfl, hh_99.at 1 rfl, hgq_87_0, hyp_87⟩)
      have hh_101 := hh_99.addI (jYb.ie hy_100)
      clear hh_99
      try simp only at hr_88
      obtain ⟨hr_88_0, hr_88_1, hr_88_2, hr_88_3, hr_88_4⟩ := hr_88
      have hh_102 := hh_101.wk (zc1 := (m_qa_87 - n_pa) / 16) (zs1 := 2 * (m_qa_87 - n_pa)) (by omega) (by omega)
      clear hh_101
      try clear hsz_87 htt_87 hrc_87 hrs_87
      try clear hb_874 hb_875
      refine lv_goto (tgt := 82) hx hb dX11_reply_67 (by decide) ?_
      refine lv_aload_n hx hb dX11_reply_82 rfl (lv_at hl 1 rfl) ?_
      refine j7_read hx hb hown hK (C := RX11) (T := TX11) (N := 19) rfl hly_13_4 hlk_35 (hh_102.at 8 rfl) dX11_reply_83 ?_
      refine lv_bipush (v := 125) hx hb dX11_reply_86 (by decide) ?_
      have hsz_103 := hh_102.2.2.2.2.2.1
      have htt_103 := hh_102.2.2.2.2.2.2.1
      refine W.room (fun hrc_103 hrs_103 => ?_)
      refine va_callv (A0 := jA base) (H0 := s.heap) (va_runV (As := [.int 125]) (rest := []) ⟨hx, hb, hml, hown, hts⟩ (uX0_put l dC dI ca base B hB hAp hB2 hB196 G_87 H_87 bo 125 qc_87 qa_87 m_qa_87 LC LS) (cwV 1 hts (jgV (jWr_15 _ (List.mem_of_getElem? (i := 23) rfl)) (jWr_16 _ (List.mem_of_getElem? (i := 0) rfl)) (jWr_16 _ (List.mem_of_getElem? (i := 1) rfl)) (jWr_1 _ (List.mem_of_getElem? (i := 14) rfl)) (jWr_16 _ (List.mem_of_getElem? (i := 2) rfl))) rfl rfl rfl (by decide +kernel) ⟨by rw [← hR]; exact Nat.le_of_ble_eq_true rfl, by rw [← hR]; exact Nat.le_of_ble_eq_true rfl⟩) ⟨fun a U g mk q => by obtain ⟨q0, q1, q2, qK, q10, q11, q12, q13⟩ := q; exact ⟨q0, q1, q2, jG.calling g mk a qK, q10, q11, q12, q13⟩, hh_102.recv (C := RX0) (T := TX0) (N := 2) hB2 rfl (by decide) hg_95 hK, fun U hU hW => ⟨rfl, hU, hh_102.2.1, hG.step hW hU hh_102.1, hg_95, hgq_87_0, (hh_102.2.2.1.sub (L1 := [(bo, 2, 1, .int qc_87), (bo, 2, 0, .ref qa_87)]) [0, 1] rfl), (by omega), (by omega), ⟨(by first | omega | rfl | assumption | fail), (by first | omega | rfl | assumption | fail), (by first | omega | rfl | assumption | fail), (by first | omega | rfl | assumption | fail), (by first | assumption | fail | omega)⟩⟩⟩ rfl rfl hl.1 rfl (lv_room (Nat.le_of_ble_eq_true rfl)) dX11_reply_88 ⟨by rw [hRc]; omega, by rw [hRs]; omega⟩) hh_102.1 (fun q _ h => h) (fun q h => h) (fun u_103 t_103 H_103 locs_103 ht_103 hvm_103 hr_104 hb_103 hz_103 hk_103 hS_103 => ?_)
      obtain ⟨qc_103, qa_103, m_qa_103, G_103⟩ := u_103
      rw [ht_103] at hb_103
      simp only at hb_103
      obtain ⟨⟨hb_1031, hb_1032, hb_1033, hb_1034, hb_1035, hb_1036⟩, hgq_103_0, hN_103, hbO_103⟩ := hb_103
      have hy_105 := hh_102.iv 0 rfl
      have hh_103 : jSt (dC, dI) B base G0 G_103 EX11_reply s.heap (((m_qa_87 - n_pa) / 16) + ((m_qa_103 - m_qa_87) / 16)) ((2 * (m_qa_87 - n_pa)) + (2 * (m_qa_103 - m_qa_87))) [(bo, 2, 1, .int qc_103), (bo, 2, 0, .ref qa_103), (r1, 10, 4, .int name_86), (r0, 13, 6, .ref printer_83), (r1, 10, 3, .int isStatement_28), (kernel_7, 7, 2, .ref start_10), (r0, 13, 5, .ref kernel_7), (r1, 10, 1, .null), (r0, 13, 4, .ref bo), (r0, 13, 3, .ref ou)] [] [(jFs11, jSef dC dI G_87)] H_103 locs_103 := (hh_102.callG hb_1031 hb_1032 hb_1033 hb_1034 hb_1035 hS_103 rfl (L1 := [(r1, 10, 4, .int name_86), (r0, 13, 6, .ref printer_83), (r1, 10, 3, .int isStatement_28), (kernel_7, 7, 2, .ref start_10), (r0, 13, 5, .ref kernel_7), (r1, 10, 1, .null), (r0, 13, 4, .ref bo), (r0, 13, 3, .ref ou)]) [2, 3, 4, 5, 6, 7, 8, 9] rfl rfl (M1 := []) [] rfl rfl (I1 := [(jFs11, jSef dC dI G_87)]) [2] rfl rfl).more hb_1036
      have hNn_103 : (jNk [0, 1, 2, 3, 4, 5, 6, 7, 8, 9, 10, 11, 12, 13, 14, 15, 16, 17, 175]) G0 G_103 := (hNn_87).tr hN_103
      have hg_106 := hb_1032 _ _ hg_90
      have hg_107 := hb_1032 _ _ hg_91
      have hg_108 := hb_1032 _ _ hg_92
      have hg_109 := hb_1032 _ _ hg_93
      have hg_110 := hb_1032 _ _ hg_94
      have hg_111 := hb_1032 _ _ hg_95
      have hg_112 := hb_1032 _ _ hg_96
      have hd_113 := jSef.grow (hh_103.iv 0 rfl) hb_1032 hN_103 (by decide)
      have hh_114 := hh_103.sub (L1 := [(bo, 2, 1, .int qc_103), (bo, 2, 0, .ref qa_103), (r1, 10, 4, .int name_86), (r0, 13, 6, .ref printer_83), (r1, 10, 3, .int isStatement_28), (kernel_7, 7, 2, .ref start_10), (r0, 13, 5, .ref kernel_7), (r1, 10, 1, .null), (r0, 13, 4, .ref bo), (r0, 13, 3, .ref ou)]) [0, 1, 2, 3, 4, 5, 6, 7, 8, 9] rfl (M1 := []) [] rfl (I1 := []) [] rfl
      clear hh_103
      have hh_115 := hh_114.addI (jSef.ie hd_113)
      clear hh_114
      have hd_116 := jOl.trO (hh_102.iv 1 rfl) hh_102.2.2.2.2.1 hbO_103 (by simp)
      have hh_117 := hh_115.addI (jOl.ie (dC := dC) (dI := dI) (G0 := G0) (k := 2) (rs := [bo, ou]) (H0 := s.heap) (F := [(2, 0), (2, 1)]) (C := RX0) (T := TX0) (N := 2) rfl (by decide) hh_115.2.2.2.2.1 (hd_116))
      clear hh_115
      have hyp_103 : qc_103.toInt ≤ (m_qa_103 : Nat) ∧ m_qa_103 ≤ 1048576 := by (try simp only at hr_104); omega
      have hy_118 := jYb.own hy_105 hbO_103 hb_1032 hN_103 (by decide) (fun _ => ⟨_, _, _, hh_117.at 0 rfl, hh_117.at 1 rfl, hgq_103_0, hyp_103⟩)
      have hh_119 := hh_117.addI (jYb.ie hy_118)
      clear hh_117
      try simp only at hr_104
      obtain ⟨hr_104_0, hr_104_1, hr_104_2, hr_104_3, hr_104_4⟩ := hr_104
      have hh_120 := hh_119.wk (zc1 := (m_qa_103 - n_pa) / 16) (zs1 := 2 * (m_qa_103 - n_pa)) (by omega) (by omega)
      clear hh_119
      try clear hsz_103 htt_103 hrc_103 hrs_103
      try clear hb_1034 hb_1035
      refine lv_aload_n hx hb dX11_reply_91 rfl (lv_at hl 1 rfl) ?_
      obtain ⟨v_123, hv_123, hh_124⟩ := hh_120.pin (C := RX0) (T := TX0) (N := 2) hB2 rfl (by decide) hg_112 (i := 1) (by decide) rfl
      obtain ⟨count_125, rfl, hlocount_125, hhicount_125, hfxcount_125⟩ := hv_123
      obtain ⟨v_126, hv_126, hh_127⟩ := hh_124.pin (C := RX0) (T := TX0) (N := 2) hB2 rfl (by decide) hg_112 (i := 0) (by decide) rfl
      obtain ⟨row_128, nrow_128, rfl, hg_row_128, hlorow_128, hhirow_128, hpwrow_128, hfxrow_128⟩ := jBr.k6 (by decide) hv_126
      have hsz_121 := hh_127.2.2.2.2.2.1
      have htt_121 := hh_127.2.2.2.2.2.2.1
      refine W.room (fun hrc_121 hrs_121 => ?_)
      refine va_callv (A0 := jA base) (H0 := s.heap) (va_runV (As := []) (rest := []) ⟨hx, hb, hml, hown, hts⟩ (uX11_send l dC dI ca base B hB hAp hB2 hB4 hB13 hB17 hB196 hB199 G_103 H_103 r0 bo qc_103 qa_103 m_qa_103 ou count_125 row_128 nrow_128) (cwV 0 hts (jgV (jWr_26 _ (List.mem_of_getElem? (i := 20) rfl)) (jWr_26 _ (List.mem_of_getElem? (i := 21) rfl)) (jWr_26 _ (List.mem_of_getElem? (i := 22) rfl)) (jWr_1 _ (List.mem_of_getElem? (i := 2) rfl)) (jWr_26 _ (List.mem_of_getElem? (i := 23) rfl))) rfl rfl rfl (by decide +kernel) ⟨by rw [← hR]; exact Nat.le_of_ble_eq_true rfl, by rw [← hR]; exact Nat.le_of_ble_eq_true rfl⟩) ⟨fun a U g mk q => by obtain ⟨q0, q1, q2, qK, q10, q11, q12, q13, q14, q15, q16, q17⟩ := q; exact ⟨q0, q1, q2, jG.calling g mk a qK, q10, q11, q12, q13, q14, q15, q16, q17⟩, hh_127.recv (C := RX11) (T := TX11) (N := 19) hB13 rfl (by decide) hg_107 hK, fun U hU hW => ⟨rfl, hU, hh_127.2.1, hG.step hW hU hh_127.1, hg_107, hg_111, hgq_103_0, hg_112, hg_row_128, (hh_127.2.2.1.sub (L1 := [(r0, 13, 4, .ref bo), (bo, 2, 1, .int qc_103), (bo, 2, 0, .ref qa_103), (r0, 13, 3, .ref ou), (ou, 2, 1, .int count_125), (ou, 2, 0, .ref row_128)]) [10, 2, 3, 11, 1, 0] rfl), (hh_127.2.2.2.2.2.2.2.2.sub (L1 := [(jFy, jYb dC dI G_103)]) [0] rfl), ⟨(by first | omega | rfl | assumption | fail), (by first | omega | rfl | assumption | fail), (by first | omega | rfl | assumption | fail), (by first | omega | rfl | assumption | fail), (by first | omega | rfl | assumption | fail), (by first | omega | rfl | assumption | fail)⟩⟩⟩ rfl rfl hl.1 rfl (lv_room (Nat.le_of_ble_eq_true rfl)) dX11_reply_92 ⟨by rw [hRc]; show _ + 0 ≤ _; omega, by rw [hRs]; show _ + 0 ≤ _; omega⟩) hh_127.1 (fun q _ h => h) (fun q h => h) (fun u_121 t_121 H_121 locs_121 ht_121 hvm_121 hr_122 hb_121 hz_121 hk_121 hS_121 => ?_)
      rw [ht_121] at hb_121
      obtain ⟨hb_121, hbE_121⟩ := hb_121
      obtain ⟨hb_121, hbO_121⟩ := hb_121
      obtain ⟨hb_1211, hb_1212, hb_1213, hb_1214, hb_1215⟩ := hb_121
      have hh_121 : jSt (dC, dI) B base G0 G_103 EX11_reply s.heap ((m_qa_103 - n_pa) / 16) (2 * (m_qa_103 - n_pa)) [(r1, 10, 4, .int name_86), (r0, 13, 6, .ref printer_83), (r1, 10, 3, .int isStatement_28), (kernel_7, 7, 2, .ref start_10), (r0, 13, 5, .ref kernel_7), (r1, 10, 1, .null), (r0, 13, 4, .ref bo), (r0, 13, 3, .ref ou)] [] [(jFy, jYb dC dI G_103), (jFs11, jSef dC dI G_103)] H_121 locs_121 := (((hh_127.call hb_1211 hb_1212 hb_1213 hb_1214 hS_121 rfl (L1 := [(r1, 10, 4, .int name_86), (r0, 13, 6, .ref printer_83), (r1, 10, 3, .int isStatement_28), (kernel_7, 7, 2, .ref start_10), (r0, 13, 5, .ref kernel_7), (r1, 10, 1, .null), (r0, 13, 4, .ref bo), (r0, 13, 3, .ref ou)]) [4, 5, 6, 7, 8, 9, 10, 11] rfl rfl (M1 := []) [] rfl rfl (I1 := [(jFs11, jSef dC dI G_103)]) [2] rfl rfl).more hb_1215)).addIs hbE_121
      have hh_129 := hh_121.more (P1 := [(bo, 2, 1, .int qc_103), (bo, 2, 0, .ref qa_103)]) (jP.cons hg_111 (hbO_121 _ _ _ _ (jn1 (by first | assumption | exact Ne.symm (by assumption) | exact jnek hg_111 hg_112 (by decide))) hg_111 (hh_127.at 2 rfl)) (jP.cons hg_111 (hbO_121 _ _ _ _ (jn1 (by first | assumption | exact Ne.symm (by assumption) | exact jnek hg_111 hg_112 (by decide))) hg_111 (hh_127.at 3 rfl)) jP.nil))
      have hd_130 := jOl.trL (hh_127.iv 1 rfl) hh_127.2.2.2.2.1 hbO_121 (by simp)
      have hh_131 := hh_129.addI (jOl.ie (dC := dC) (dI := dI) (G0 := G0) (k := 2) (rs := [bo, ou]) (H0 := s.heap) (F := [(2, 0), (2, 1)]) (C := RX0) (T := TX0) (N := 2) rfl (by decide) hh_129.2.2.2.2.1 (hd_130))
      clear hh_129
      clear hh_127 ht_121 hvm_121 hz_121 hk_121 hS_121 hb_1211 hb_1212 hb_1213 hb_1214 hb_1215
      clear  hbE_121
      have hsz_132 := hh_131.2.2.2.2.2.1
      have htt_132 := hh_131.2.2.2.2.2.2.1
      refine W.room (fun hrc_132 hrs_132 => ?_)
      refine W.widen (k := LC - s.heap.size) (n := LS - jTot s.heap) (by omega) (by omega) ?_
      rw [hQ]
      exact W.vret hx hb hr (fun t ht hW => ⟨⟨(qc_103, qa_103, m_qa_103, G_103), rfl, by (try dsimp only); exact ⟨(by first | omega | rfl | assumption | fail), (by first | omega | rfl | assumption | fail), (by first | omega | rfl | assumption | fail), (by first | omega | rfl | assumption | fail), (by first | assumption | fail | omega)⟩, ⟨hh_131.ra (by first | omega | (simp only; omega)) (by first | omega | (simp only; omega)) (M1 := [(bo, 2, 1, .int qc_103), (bo, 2, 0, .ref qa_103)]) [0, 1] rfl ht, hgq_103_0, hNn_103, by rw [ht]; exact hh_131.iv 0 rfl, by rw [ht]; exact hh_131.2.2.2.2.2.2.2.2.sub (L1 := [(jFy, jYb dC dI G_103), (jFs11, jSef dC dI G_103)]) [1, 2] rfl⟩⟩, by rw [ht]; try exact hh_131.1.1, fun q h9 hq => by rw [ht]; try exact hh_131.1.2.1 q h9 hq⟩) hh_131.1.2.2 dX11_reply_95
  · refine j7_read hx hb hown hK (C := RX8) (T := TX8) (N := 5) rfl hly_10_1 hlk_432 (hh_3.at 0 rfl) dX11_reply_1 ?_
    refine lv_ifnonnull (tgt := 17) hx hb dX11_reply_4 (by decide) ?_
    refine lv_aload_n hx hb dX11_reply_17 rfl (lv_at hl 1 rfl) ?_
    refine j7_read hx hb hown hK (C := RX8) (T := TX8) (N := 5) rfl hly_10_1 hlk_432 (hh_3.at 0 rfl) dX11_reply_18 ?_
    refine lv_aload_n hx hb dX11_reply_21 rfl (lv_at hl 1 rfl) ?_
    obtain ⟨v_133, hv_133, hh_134⟩ := hh_3.pin (C := RX8) (T := TX8) (N := 5) hB10 rfl (by decide) hg_r1 (i := 2) (by decide) rfl
    clear hh_3
    obtain ⟨needed_135, rfl⟩ := hv_133
    refine j7_read hx hb hown hK (C := RX8) (T := TX8) (N := 5) rfl hly_10_2 hlk_438 (hh_134.at 0 rfl) dX11_reply_22 ?_
    refine lv_aload_n hx hb dX11_reply_25 rfl (lv_at hl 0 rfl) ?_
    obtain ⟨v_136, hv_136, hh_137⟩ := hh_134.pin (C := RX11) (T := TX11) (N := 19) hB13 rfl (by decide) hg_r0 (i := 5) (by decide) rfl
    clear hh_134
    obtain ⟨kernel_138, rfl, hg_kernel_138⟩ := hv_136
    refine j7_read hx hb hown hK (C := RX11) (T := TX11) (N := 19) rfl hly_13_5 hlk_41 (hh_137.at 0 rfl) dX11_reply_26 ?_
    obtain ⟨v_139, hv_139, hh_140⟩ := hh_137.pin (C := RX5) (T := TX5) (N := 11) hB7 rfl (by decide) hg_kernel_138 (i := 2) (by decide) rfl
    clear hh_137
    obtain ⟨start_141, rfl, hg_start_141⟩ := hv_139
    refine j7_read hx hb hown hK (C := RX5) (T := TX5) (N := 11) rfl hly_7_2 hlk_217 (hh_140.at 0 rfl) dX11_reply_29 ?_
    have hsz_142 := hh_140.2.2.2.2.2.1
    have htt_142 := hh_140.2.2.2.2.2.2.1
    refine W.room (fun hrc_142 hrs_142 => ?_)
    refine j_callx (A0 := jA base) (H0 := s.heap) (va_runV (As := [.int needed_135, .ref start_141]) (rest := []) ⟨hx, hb, hml, hown, hts⟩ (uX1_stateBehind l dC dI ca base B hB hAp hB3 hB11 hB210 G0 s.heap about_4 needed_135 start_141 0) (cwV 2 hts (jgV (jWr_30 _ (List.mem_of_getElem? (i := 9) rfl)) (jWr_30 _ (List.mem_of_getElem? (i := 10) rfl)) (jWr_30 _ (List.mem_of_getElem? (i := 11) rfl)) (jWr_2 _ (List.mem_of_getElem? (i := 21) rfl)) (jWr_30 _ (List.mem_of_getElem? (i := 12) rfl))) rfl rfl rfl (by decide +kernel) ⟨by rw [← hR]; exact Nat.le_of_ble_eq_true rfl, by rw [← hR]; exact Nat.le_of_ble_eq_true rfl⟩) ⟨fun a U g mk q => by obtain ⟨q0, q1, q2, qK, q10, q11, q12, q13, q14⟩ := q; exact ⟨q0, q1, q2, jG.calling g mk a qK, (va_K.moved (Vm.Alike.refl U.vm) q10), q11, q12, q13, q14⟩, hh_140.recv (C := RX1) (T := TX1) (N := 17) hB3 rfl (by decide) hg_about_4 hK, fun U hU hW => ⟨rfl, hU, hh_140.2.1, hG.step hW hU hh_140.1, va_K.moved hW.alike hK2, hg_about_4, hg_start_141, jP.nil, trivial⟩⟩ rfl rfl hl.1 rfl (lv_room (Nat.le_of_ble_eq_true rfl)) dX11_reply_32 ⟨by rw [hRc]; show _ + 0 ≤ _; omega, by rw [hRs]; show _ + 0 ≤ _; omega⟩) hh_140.1 (fun q _ h => h) (fun q h => h) (fun r_143 u_142 t_142 H_142 locs_142 ht_142 hvm_142 hr_143 hb_142 hz_142 hk_142 hS_142 => ?_)
    rw [ht_142] at hb_142
    obtain ⟨hb_1421, hb_1422, hb_1423, hb_1424, hb_1425⟩ := hb_142
    have hh_142 : jSt (dC, dI) B base G0 G0 EX11_reply s.heap 0 0 [(kernel_138, 7, 2, .ref start_141), (r0, 13, 5, .ref kernel_138), (r1, 10, 2, .int needed_135), (r1, 10, 1, .ref about_4), (r0, 13, 4, .ref bo), (bo, 2, 1, .int pc), (bo, 2, 0, .ref pa), (r0, 13, 3, .ref ou)] [] [([(2, 0), (2, 1)], jOl (dC, dI) G0 2 [bo, ou] s.heap), (jFy, jYb dC dI G0), (jFs11, jSef dC dI G0)] H_142 locs_142 := ((hh_140.call hb_1421 hb_1422 hb_1423 hb_1424 hS_142 rfl (L1 := [(kernel_138, 7, 2, .ref start_141), (r0, 13, 5, .ref kernel_138), (r1, 10, 2, .int needed_135), (r1, 10, 1, .ref about_4), (r0, 13, 4, .ref bo), (bo, 2, 1, .int pc), (bo, 2, 0, .ref pa), (r0, 13, 3, .ref ou)]) [0, 1, 2, 3, 4, 5, 6, 7] rfl rfl (M1 := []) [] rfl rfl (I1 := [([(2, 0), (2, 1)], jOl (dC, dI) G0 2 [bo, ou] s.heap), (jFy, jYb dC dI G0), (jFs11, jSef dC dI G0)]) [0, 1, 2] rfl rfl).more hb_1425)
    clear hh_140 ht_142 hvm_142 hz_142 hk_142 hS_142 hb_1421 hb_1422 hb_1423 hb_1424 hb_1425
    obtain ⟨ret_144, rfl, hg_ret_144⟩ := hr_143
    refine lv_astore_n (lv' := [(2, .ref ret_144), (0, .ref r0), (1, .ref r1)]) hx hb dX11_reply_35 rfl hl (by decide) rfl (fun ls hl => ?_)
    refine lv_aload_n hx hb dX11_reply_36 rfl (lv_at hl 1 rfl) ?_
    refine lv_aload_n hx hb dX11_reply_37 rfl (lv_at hl 2 rfl) ?_
    refine j_ldcSw hx hb hown rstr289 dX11_reply_38 ?_
    have hsz_145 := hh_142.2.2.2.2.2.1
    have htt_145 := hh_142.2.2.2.2.2.2.1
    refine W.room (fun hrc_145 hrs_145 => ?_)
    refine va_callv (A0 := jA base) (H0 := s.heap) (va_runV (As := [.ref r1, .ref str289]) (rest := []) ⟨hx, hb, hml, hown, hts⟩ (uX11_beginAnswer l dC dI ca base B hB hAp hB2 hB10 hB13 hB17 hB196 hB199 G0 H_142 r0 r1 str289 10 bo pc pa n_pa LC LS) (cwV 2 hts (jgV (jWr_26 _ (List.mem_of_getElem? (i := 7) rfl)) (jWr_26 _ (List.mem_of_getElem? (i := 8) rfl)) (jWr_26 _ (List.mem_of_getElem? (i := 9) rfl)) (jWr_1 _ (List.mem_of_getElem? (i := 2) rfl)) (jWr_26 _ (List.mem_of_getElem? (i := 10) rfl))) rfl rfl rfl (by decide +kernel) ⟨by rw [← hR]; exact Nat.le_of_ble_eq_true rfl, by rw [← hR]; exact Nat.le_of_ble_eq_true rfl⟩) ⟨fun a U g mk q => by obtain ⟨q0, q1, q2, qK, q10, q11, q12, q13, q14, q15, q16, q17⟩ := q; exact ⟨q0, q1, q2, jG.calling g mk a qK, (q10.moved (Vm.Alike.refl U.vm)), q11, q12, q13, q14, q15, q16, q17⟩, hh_142.recv (C := RX11) (T := TX11) (N := 19) hB13 rfl (by decide) hg_r0 hK, fun U hU hW => ⟨rfl, hU, hh_142.2.1, hG.step hW hU hh_142.1, (hstr289.moved hW.alike).kept hh_142.1.2.1, hg_r1, hg_r0, hg_bo, hg_pa, (hh_142.2.2.1.sub (L1 := [(r0, 13, 4, .ref bo), (bo, 2, 1, .int pc), (bo, 2, 0, .ref pa)]) [4, 5, 6] rfl), (hh_142.2.2.2.2.2.2.2.2.sub (L1 := [(jFy, jYb dC dI G0)]) [1] rfl), (by omega), (by omega), ⟨(by first | omega | rfl | assumption | fail), (by first | omega | rfl | assumption | fail), (by first | omega | rfl | assumption | fail), (by first | omega | rfl | assumption | fail), (by first | assumption | fail | omega), (by first | omega | rfl | assumption | fail)⟩⟩⟩ rfl rfl hl.1 rfl (lv_room (Nat.le_of_ble_eq_true rfl)) dX11_reply_41 ⟨by rw [hRc]; omega, by rw [hRs]; omega⟩) hh_142.1 (fun q _ h => h) (fun q h => h) (fun u_145 t_145 H_145 locs_145 ht_145 hvm_145 hr_146 hb_145 hz_145 hk_145 hS_145 => ?_)
    obtain ⟨qc_145, qa_145, m_qa_145, G_145⟩ := u_145
    rw [ht_145] at hb_145
    simp only at hb_145
    obtain ⟨⟨hb_1451, hb_1452, hb_1453, hb_1454, hb_1455, hb_1456⟩, hgq_145_0, hN_145, hbO_145, hbE_145⟩ := hb_145
    have hh_145 : jSt (dC, dI) B base G0 G_145 EX11_reply s.heap (0 + ((m_qa_145 - n_pa) / 16)) (0 + (2 * (m_qa_145 - n_pa))) [(bo, 2, 1, .int qc_145), (bo, 2, 0, .ref qa_145), (kernel_138, 7, 2, .ref start_141), (r0, 13, 5, .ref kernel_138), (r1, 10, 2, .int needed_135), (r1, 10, 1, .ref about_4), (r0, 13, 4, .ref bo), (r0, 13, 3, .ref ou)] [] [(jFs11, jSef dC dI G0)] H_145 locs_145 := (hh_142.callG hb_1451 hb_1452 hb_1453 hb_1454 hb_1455 hS_145 rfl (L1 := [(kernel_138, 7, 2, .ref start_141), (r0, 13, 5, .ref kernel_138), (r1, 10, 2, .int needed_135), (r1, 10, 1, .ref about_4), (r0, 13, 4, .ref bo), (r0, 13, 3, .ref ou)]) [0, 1, 2, 3, 4, 7] rfl rfl (M1 := []) [] rfl rfl (I1 := [(jFs11, jSef dC dI G0)]) [2] rfl rfl).more hb_1456
    have hNn_145 : (jNk [0, 1, 2, 3, 4, 5, 6, 7, 8, 9, 10, 11, 12, 13, 14, 15, 16, 17, 175]) G0 G_145 := (jNk.rf).tr hN_145
    have hg_147 := hb_1452 _ _ hg_ret_144
    have hg_148 := hb_1452 _ _ hg_r0
    have hg_149 := hb_1452 _ _ hg_r1
    have hg_150 := hb_1452 _ _ hg_start_141
    have hg_151 := hb_1452 _ _ hg_kernel_138
    have hg_152 := hb_1452 _ _ hg_about_4
    have hg_153 := hb_1452 _ _ hg_bo
    have hg_154 := hb_1452 _ _ hg_ou
    have hd_155 := jSef.grow (hh_145.iv 0 rfl) hb_1452 hN_145 (by decide)
    have hh_156 := hh_145.sub (L1 := [(bo, 2, 1, .int qc_145), (bo, 2, 0, .ref qa_145), (kernel_138, 7, 2, .ref start_141), (r0, 13, 5, .ref kernel_138), (r1, 10, 2, .int needed_135), (r1, 10, 1, .ref about_4), (r0, 13, 4, .ref bo), (r0, 13, 3, .ref ou)]) [0, 1, 2, 3, 4, 5, 6, 7] rfl (M1 := []) [] rfl (I1 := []) [] rfl
    clear hh_145
    have hh_157 := hh_156.addI (jSef.ie hd_155)
    clear hh_156
    have hh_158 := hh_157.addIs hbE_145
    have hd_159 := jOl.trL (hh_142.iv 0 rfl) hh_142.2.2.2.2.1 hbO_145 (by simp)
    have hh_160 := hh_158.addI (jOl.ie (dC := dC) (dI := dI) (G0 := G0) (k := 2) (rs := [bo, ou]) (H0 := s.heap) (F := [(2, 0), (2, 1)]) (C := RX0) (T := TX0) (N := 2) rfl (by decide) hh_158.2.2.2.2.1 (hd_159))
    clear hh_158
    try simp only at hr_146
    obtain ⟨hr_146_0, hr_146_1, hr_146_2, hr_146_3, hr_146_4⟩ := hr_146
    have hh_161 := hh_160.wk (zc1 := (m_qa_145 - n_pa) / 16) (zs1 := 2 * (m_qa_145 - n_pa)) (by omega) (by omega)
    clear hh_160
    try clear hsz_145 htt_145 hrc_145 hrs_145
    try clear hb_1454 hb_1455
    refine lv_aload_n hx hb dX11_reply_44 rfl (lv_at hl 2 rfl) ?_
    obtain ⟨v_162, hv_162, hh_163⟩ := hh_161.pin (C := RX8) (T := TX8) (N := 5) hB10 rfl (by decide) hg_149 (i := 3) (by decide) rfl
    clear hh_161
    obtain ⟨isStatement_164, rfl, hzisStatement_164⟩ := hv_162
    have hzisStatement_164' := jb_01 hzisStatement_164
    refine j7_read hx hb hown hK (C := RX8) (T := TX8) (N := 5) rfl hly_10_3 hlk_443 (hh_163.at 0 rfl) dX11_reply_45 ?_
    refine lv_if_eq (tgt := 70) hx hb dX11_reply_48 (by decide) (fun c_165 => ?_) (fun c_165 => ?_)
    · skip
      have c_165' : isStatement_164.toInt = 0 := jb_eq (rfl) ((by decide)) c_165
      refine lv_aload_n hx hb dX11_reply_70 rfl (lv_at hl 1 rfl) ?_
      obtain ⟨v_166, hv_166, hh_167⟩ := hh_163.pin (C := RX11) (T := TX11) (N := 19) hB13 rfl (by decide) hg_148 (i := 6) (by decide) rfl
      clear hh_163
      obtain ⟨printer_168, rfl, hg_printer_168⟩ := hv_166
      refine j7_read hx hb hown hK (C := RX11) (T := TX11) (N := 19) rfl hly_13_6 hlk_54 (hh_167.at 0 rfl) dX11_reply_71 ?_
      refine lv_aload_n hx hb dX11_reply_74 rfl (lv_at hl 0 rfl) ?_
      refine lv_aload_n hx hb dX11_reply_75 rfl (lv_at hl 1 rfl) ?_
      refine j7_read hx hb hown hK (C := RX11) (T := TX11) (N := 19) rfl hly_13_4 hlk_35 (hh_167.at 8 rfl) dX11_reply_76 ?_
      have hsz_169 := hh_167.2.2.2.2.2.1
      have htt_169 := hh_167.2.2.2.2.2.2.1
      refine W.room (fun hrc_169 hrs_169 => ?_)
      refine va_callv (A0 := jA base) (H0 := s.heap) (va_runV (As := [.ref ret_144, .ref bo]) (rest := []) ⟨hx, hb, hml, hown, hts⟩ (uX7_proof l dC dI ca base B hB hAp hB2 hB5 hB8 hB9 hB11 hB101 hB102 hB132 hB196 hB214 hB280 hB286 hB287 hB288 hB313 G_145 H_145 printer_168 ret_144 bo qc_145 qa_145 m_qa_145 LC LS) (cwV 2 hts (jgV (jWr_32 _ (List.mem_of_getElem? (i := 21) rfl)) (jWr_32 _ (List.mem_of_getElem? (i := 22) rfl)) (jWr_32 _ (List.mem_of_getElem? (i := 23) rfl)) (jWr_2 _ (List.mem_of_getElem? (i := 8) rfl)) (jWr_33 _ (List.mem_of_getElem? (i := 0) rfl))) rfl rfl rfl (by decide +kernel) ⟨by rw [← hR]; exact Nat.le_of_ble_eq_true rfl, by rw [← hR]; exact Nat.le_of_ble_eq_true rfl⟩) ⟨fun a U g mk q => by obtain ⟨q0, q1, q2, qK, q10, q11, q12, q13, q14, q15, q16, q17⟩ := q; exact ⟨q0, q1, q2, jG.calling g mk a qK, (va_K.moved (Vm.Alike.refl U.vm) q10), (jK5.moved (Vm.Alike.refl U.vm) q11), q12, q13, q14, q15, q16, q17⟩, hh_167.recv (C := RX7) (T := TX7) (N := 5) hB9 rfl (by decide) hg_printer_168 hK, fun U hU hW => ⟨rfl, hU, hh_167.2.1, hG.step hW hU hh_167.1, va_K.moved hW.alike hK2, jK5.moved hW.alike hK5, hg_153, hg_147, hg_printer_168, hgq_145_0, (hh_167.2.2.1.sub (L1 := [(bo, 2, 1, .int qc_145), (bo, 2, 0, .ref qa_145)]) [2, 3] rfl), (by omega), (by omega), ⟨(by first | omega | rfl | assumption | fail), (by first | omega | rfl | assumption | fail), (by first | omega | rfl | assumption | fail), (by first | omega | rfl | assumption | fail), (by first | assumption | fail | omega)⟩⟩⟩ rfl rfl hl.1 rfl (lv_room (Nat.le_of_ble_eq_true rfl)) dX11_reply_79 ⟨by rw [hRc]; omega, by rw [hRs]; omega⟩) hh_167.1 (fun q _ h => h) (fun q h => h) (fun u_169 t_169 H_169 locs_169 ht_169 hvm_169 hr_170 hb_169 hz_169 hk_169 hS_169 => ?_)
      obtain ⟨qc_169, qa_169, m_qa_169, G_169⟩ := u_169
      rw [ht_169] at hb_169
      simp only at hb_169
      obtain ⟨⟨hb_1691, hb_1692, hb_1693, hb_1694, hb_1695, hb_1696⟩, hgq_169_0, hN_169, hbO_169⟩ := hb_169
      have hy_171 := hh_167.iv 1 rfl
      have hh_169 : jSt (dC, dI) B base G0 G_169 EX11_reply s.heap (((m_qa_145 - n_pa) / 16) + ((m_qa_169 - m_qa_145) / 16)) ((2 * (m_qa_145 - n_pa)) + (2 * (m_qa_169 - m_qa_145))) [(bo, 2, 1, .int qc_169), (bo, 2, 0, .ref qa_169), (r0, 13, 6, .ref printer_168), (r1, 10, 3, .int isStatement_164), (kernel_138, 7, 2, .ref start_141), (r0, 13, 5, .ref kernel_138), (r1, 10, 2, .int needed_135), (r1, 10, 1, .ref about_4), (r0, 13, 4, .ref bo), (r0, 13, 3, .ref ou)] [] [(jFs11, jSef dC dI G_145)] H_169 locs_169 := (hh_167.callG hb_1691 hb_1692 hb_1693 hb_1694 hb_1695 hS_169 rfl (L1 := [(r0, 13, 6, .ref printer_168), (r1, 10, 3, .int isStatement_164), (kernel_138, 7, 2, .ref start_141), (r0, 13, 5, .ref kernel_138), (r1, 10, 2, .int needed_135), (r1, 10, 1, .ref about_4), (r0, 13, 4, .ref bo), (r0, 13, 3, .ref ou)]) [0, 1, 4, 5, 6, 7, 8, 9] rfl rfl (M1 := []) [] rfl rfl (I1 := [(jFs11, jSef dC dI G_145)]) [2] rfl rfl).more hb_1696
      have hNn_169 : (jNk [0, 1, 2, 3, 4, 5, 6, 7, 8, 9, 10, 11, 12, 13, 14, 15, 16, 17, 175]) G0 G_169 := (hNn_145).tr hN_169
      have hg_172 := hb_1692 _ _ hg_147
      have hg_173 := hb_1692 _ _ hg_148
      have hg_174 := hb_1692 _ _ hg_149
      have hg_175 := hb_1692 _ _ hg_printer_168
      have hg_176 := hb_1692 _ _ hg_150
      have hg_177 := hb_1692 _ _ hg_151
      have hg_178 := hb_1692 _ _ hg_152
      have hg_179 := hb_1692 _ _ hg_153
      have hg_180 := hb_1692 _ _ hg_154
      have hd_181 := jSef.grow (hh_169.iv 0 rfl) hb_1692 hN_169 (by decide)
      have hh_182 := hh_169.sub (L1 := [(bo, 2, 1, .int qc_169), (bo, 2, 0, .ref qa_169), (r0, 13, 6, .ref printer_168), (r1, 10, 3, .int isStatement_164), (kernel_138, 7, 2, .ref start_141), (r0, 13, 5, .ref kernel_138), (r1, 10, 2, .int needed_135), (r1, 10, 1, .ref about_4), (r0, 13, 4, .ref bo), (r0, 13, 3, .ref ou)]) [0, 1, 2, 3, 4, 5, 6, 7, 8, 9] rfl (M1 := []) [] rfl (I1 := []) [] rfl
      clear hh_169
      have hh_183 := hh_182.addI (jSef.ie hd_181)
      clear hh_182
      have hd_184 := jOl.trO (hh_167.iv 0 rfl) hh_167.2.2.2.2.1 hbO_169 (by simp)
      have hh_185 := hh_183.addI (jOl.ie (dC := dC) (dI := dI) (G0 := G0) (k := 2) (rs := [bo, ou]) (H0 := s.heap) (F := [(2, 0), (2, 1)]) (C := RX0) (T := TX0) (N := 2) rfl (by decide) hh_183.2.2.2.2.1 (hd_184))
      clear hh_183
      have hyp_169 : qc_169.toInt ≤ (m_qa_169 : Nat) ∧ m_qa_169 ≤ 1048576 := by (try simp only at hr_170); omega
      have hy_186 := jYb.own hy_171 hbO_169 hb_1692 hN_169 (by decide) (fun _ => ⟨_, _, _, hh_185.at 0 rfl, hh_185.at 1 rfl, hgq_169_0, hyp_169⟩)
      have hh_187 := hh_185.addI (jYb.ie hy_186)
      clear hh_185
      try simp only at hr_170
      obtain ⟨hr_170_0, hr_170_1, hr_170_2, hr_170_3, hr_170_4⟩ := hr_170
      have hh_188 := hh_187.wk (zc1 := (m_qa_169 - n_pa) / 16) (zs1 := 2 * (m_qa_169 - n_pa)) (by omega) (by omega)
      clear hh_187
      try clear hsz_169 htt_169 hrc_169 hrs_169
      try clear hb_1694 hb_1695
      refine lv_aload_n hx hb dX11_reply_82 rfl (lv_at hl 1 rfl) ?_
      refine j7_read hx hb hown hK (C := RX11) (T := TX11) (N := 19) rfl hly_13_4 hlk_35 (hh_188.at 8 rfl) dX11_reply_83 ?_
      refine lv_bipush (v := 125) hx hb dX11_reply_86 (by decide) ?_
      have hsz_189 := hh_188.2.2.2.2.2.1
      have htt_189 := hh_188.2.2.2.2.2.2.1
      refine W.room (fun hrc_189 hrs_189 => ?_)
      refine va_callv (A0 := jA base) (H0 := s.heap) (va_runV (As := [.int 125]) (rest := []) ⟨hx, hb, hml, hown, hts⟩ (uX0_put l dC dI ca base B hB hAp hB2 hB196 G_169 H_169 bo 125 qc_169 qa_169 m_qa_169 LC LS) (cwV 1 hts (jgV (jWr_15 _ (List.mem_of_getElem? (i := 23) rfl)) (jWr_16 _ (List.mem_of_getElem? (i := 0) rfl)) (jWr_16 _ (List.mem_of_getElem? (i := 1) rfl)) (jWr_1 _ (List.mem_of_getElem? (i := 14) rfl)) (jWr_16 _ (List.mem_of_getElem? (i := 2) rfl))) rfl rfl rfl (by decide +kernel) ⟨by rw [← hR]; exact Nat.le_of_ble_eq_true rfl, by rw [← hR]; exact Nat.le_of_ble_eq_true rfl⟩) ⟨fun a U g mk q => by obtain ⟨q0, q1, q2, qK, q10, q11, q12, q13⟩ := q; exact ⟨q0, q1, q2, jG.calling g mk a qK, q10, q11, q12, q13⟩, hh_188.recv (C := RX0) (T := TX0) (N := 2) hB2 rfl (by decide) hg_179 hK, fun U hU hW => ⟨rfl, hU, hh_188.2.1, hG.step hW hU hh_188.1, hg_179, hgq_169_0, (hh_188.2.2.1.sub (L1 := [(bo, 2, 1, .int qc_169), (bo, 2, 0, .ref qa_169)]) [0, 1] rfl), (by omega), (by omega), ⟨(by first | omega | rfl | assumption | fail), (by first | omega | rfl | assumption | fail), (by first | omega | rfl | assumption | fail), (by first | omega | rfl | assumption | fail), (by first | assumption | fail | omega)⟩⟩⟩ rfl rfl hl.1 rfl (lv_room (Nat.le_of_ble_eq_true rfl)) dX11_reply_88 ⟨by rw [hRc]; omega, by rw [hRs]; omega⟩) hh_188.1 (fun q _ h => h) (fun q h => h) (fun u_189 t_189 H_189 locs_189 ht_189 hvm_189 hr_190 hb_189 hz_189 hk_189 hS_189 => ?_)
      obtain ⟨qc_189, qa_189, m_qa_189, G_189⟩ := u_189
      rw [ht_189] at hb_189
      simp only at hb_189
      obtain ⟨⟨hb_1891, hb_1892, hb_1893, hb_1894, hb_1895, hb_1896⟩, hgq_189_0, hN_189, hbO_189⟩ := hb_189
      have hy_191 := hh_188.iv 0 rfl
      have hh_189 : jSt (dC, dI) B base G0 G_189 EX11_reply s.heap (((m_qa_169 - n_pa) / 16) + ((m_qa_189 - m_qa_169) / 16)) ((2 * (m_qa_169 - n_pa)) + (2 * (m_qa_189 - m_qa_169))) [(bo, 2, 1, .int qc_189), (bo, 2, 0, .ref qa_189), (r0, 13, 6, .ref printer_168), (r1, 10, 3, .int isStatement_164), (kernel_138, 7, 2, .ref start_141), (r0, 13, 5, .ref kernel_138), (r1, 10, 2, .int needed_135), (r1, 10, 1, .ref about_4), (r0, 13, 4, .ref bo), (r0, 13, 3, .ref ou)] [] [(jFs11, jSef dC dI G_169)] H_189 locs_189 := (hh_188.callG hb_1891 hb_1892 hb_1893 hb_1894 hb_1895 hS_189 rfl (L1 := [(r0, 13, 6, .ref printer_168), (r1, 10, 3, .int isStatement_164), (kernel_138, 7, 2, .ref start_141), (r0, 13, 5, .ref kernel_138), (r1, 10, 2, .int needed_135), (r1, 10, 1, .ref about_4), (r0, 13, 4, .ref bo), (r0, 13, 3, .ref ou)]) [2, 3, 4, 5, 6, 7, 8, 9] rfl rfl (M1 := []) [] rfl rfl (I1 := [(jFs11, jSef dC dI G_169)]) [2] rfl rfl).more hb_1896
      have hNn_189 : (jNk [0, 1, 2, 3, 4, 5, 6, 7, 8, 9, 10, 11, 12, 13, 14, 15, 16, 17, 175]) G0 G_189 := (hNn_169).tr hN_189
      have hg_192 := hb_1892 _ _ hg_172
      have hg_193 := hb_1892 _ _ hg_173
      have hg_194 := hb_1892 _ _ hg_174
      have hg_195 := hb_1892 _ _ hg_175
      have hg_196 := hb_1892 _ _ hg_176
      have hg_197 := hb_1892 _ _ hg_177
      have hg_198 := hb_1892 _ _ hg_178
      have hg_199 := hb_1892 _ _ hg_179
      have hg_200 := hb_1892 _ _ hg_180
      have hd_201 := jSef.grow (hh_189.iv 0 rfl) hb_1892 hN_189 (by decide)
      have hh_202 := hh_189.sub (L1 := [(bo, 2, 1, .int qc_189), (bo, 2, 0, .ref qa_189), (r0, 13, 6, .ref printer_168), (r1, 10, 3, .int isStatement_164), (kernel_138, 7, 2, .ref start_141), (r0, 13, 5, .ref kernel_138), (r1, 10, 2, .int needed_135), (r1, 10, 1, .ref about_4), (r0, 13, 4, .ref bo), (r0, 13, 3, .ref ou)]) [0, 1, 2, 3, 4, 5, 6, 7, 8, 9] rfl (M1 := []) [] rfl (I1 := []) [] rfl
      clear hh_189
      have hh_203 := hh_202.addI (jSef.ie hd_201)
      clear hh_202
      have hd_204 := jOl.trO (hh_188.iv 1 rfl) hh_188.2.2.2.2.1 hbO_189 (by simp)
      have hh_205 := hh_203.addI (jOl.ie (dC := dC) (dI := dI) (G0 := G0) (k := 2) (rs := [bo, ou]) (H0 := s.heap) (F := [(2, 0), (2, 1)]) (C := RX0) (T := TX0) (N := 2) rfl (by decide) hh_203.2.2.2.2.1 (hd_204))
      clear hh_203
      have hyp_189 : qc_189.toInt ≤ (m_qa_189 : Nat) ∧ m_qa_189 ≤ 1048576 := by (try simp only at hr_190); omega
      have hy_206 := jYb.own hy_191 hbO_189 hb_1892 hN_189 (by decide) (fun _ => ⟨_, _, _, hh_205.at 0 rfl, hh_205.at 1 rfl, hgq_189_0, hyp_189⟩)
      have hh_207 := hh_205.addI (jYb.ie hy_206)
      clear hh_205
      try simp only at hr_190
      obtain ⟨hr_190_0, hr_190_1, hr_190_2, hr_190_3, hr_190_4⟩ := hr_190
      have hh_208 := hh_207.wk (zc1 := (m_qa_189 - n_pa) / 16) (zs1 := 2 * (m_qa_189 - n_pa)) (by omega) (by omega)
      clear hh_207
      try clear hsz_189 htt_189 hrc_189 hrs_189
      try clear hb_1894 hb_1895
      refine lv_aload_n hx hb dX11_reply_91 rfl (lv_at hl 1 rfl) ?_
      obtain ⟨v_211, hv_211, hh_212⟩ := hh_208.pin (C := RX0) (T := TX0) (N := 2) hB2 rfl (by decide) hg_200 (i := 1) (by decide) rfl
      obtain ⟨count_213, rfl, hlocount_213, hhicount_213, hfxcount_213⟩ := hv_211
      obtain ⟨v_214, hv_214, hh_215⟩ := hh_212.pin (C := RX0) (T := TX0) (N := 2) hB2 rfl (by decide) hg_200 (i := 0) (by decide) rfl
      obtain ⟨row_216, nrow_216, rfl, hg_row_216, hlorow_216, hhirow_216, hpwrow_216, hfxrow_216⟩ := jBr.k6 (by decide) hv_214
      have hsz_209 := hh_215.2.2.2.2.2.1
      have htt_209 := hh_215.2.2.2.2.2.2.1
      refine W.room (fun hrc_209 hrs_209 => ?_)
      refine va_callv (A0 := jA base) (H0 := s.heap) (va_runV (As := []) (rest := []) ⟨hx, hb, hml, hown, hts⟩ (uX11_send l dC dI ca base B hB hAp hB2 hB4 hB13 hB17 hB196 hB199 G_189 H_189 r0 bo qc_189 qa_189 m_qa_189 ou count_213 row_216 nrow_216) (cwV 0 hts (jgV (jWr_26 _ (List.mem_of_getElem? (i := 20) rfl)) (jWr_26 _ (List.mem_of_getElem? (i := 21) rfl)) (jWr_26 _ (List.mem_of_getElem? (i := 22) rfl)) (jWr_1 _ (List.mem_of_getElem? (i := 2) rfl)) (jWr_26 _ (List.mem_of_getElem? (i := 23) rfl))) rfl rfl rfl (by decide +kernel) ⟨by rw [← hR]; exact Nat.le_of_ble_eq_true rfl, by rw [← hR]; exact Nat.le_of_ble_eq_true rfl⟩) ⟨fun a U g mk q => by obtain ⟨q0, q1, q2, qK, q10, q11, q12, q13, q14, q15, q16, q17⟩ := q; exact ⟨q0, q1, q2, jG.calling g mk a qK, q10, q11, q12, q13, q14, q15, q16, q17⟩, hh_215.recv (C := RX11) (T := TX11) (N := 19) hB13 rfl (by decide) hg_193 hK, fun U hU hW => ⟨rfl, hU, hh_215.2.1, hG.step hW hU hh_215.1, hg_193, hg_199, hgq_189_0, hg_200, hg_row_216, (hh_215.2.2.1.sub (L1 := [(r0, 13, 4, .ref bo), (bo, 2, 1, .int qc_189), (bo, 2, 0, .ref qa_189), (r0, 13, 3, .ref ou), (ou, 2, 1, .int count_213), (ou, 2, 0, .ref row_216)]) [10, 2, 3, 11, 1, 0] rfl), (hh_215.2.2.2.2.2.2.2.2.sub (L1 := [(jFy, jYb dC dI G_189)]) [0] rfl), ⟨(by first | omega | rfl | assumption | fail), (by first | omega | rfl | assumption | fail), (by first | omega | rfl | assumption | fail), (by first | omega | rfl | assumption | fail), (by first | omega | rfl | assumption | fail), (by first | omega | rfl | assumption | fail)⟩⟩⟩ rfl rfl hl.1 rfl (lv_room (Nat.le_of_ble_eq_true rfl)) dX11_reply_92 ⟨by rw [hRc]; show _ + 0 ≤ _; omega, by rw [hRs]; show _ + 0 ≤ _; omega⟩) hh_215.1 (fun q _ h => h) (fun q h => h) (fun u_209 t_209 H_209 locs_209 ht_209 hvm_209 hr_210 hb_209 hz_209 hk_209 hS_209 => ?_)
      rw [ht_209] at hb_209
      obtain ⟨hb_209, hbE_209⟩ := hb_209
      obtain ⟨hb_209, hbO_209⟩ := hb_209
      obtain ⟨hb_2091, hb_2092, hb_2093, hb_2094, hb_2095⟩ := hb_209
      have hh_209 : jSt (dC, dI) B base G0 G_189 EX11_reply s.heap ((m_qa_189 - n_pa) / 16) (2 * (m_qa_189 - n_pa)) [(r0, 13, 6, .ref printer_168), (r1, 10, 3, .int isStatement_164), (kernel_138, 7, 2, .ref start_141), (r0, 13, 5, .ref kernel_138), (r1, 10, 2, .int needed_135), (r1, 10, 1, .ref about_4), (r0, 13, 4, .ref bo), (r0, 13, 3, .ref ou)] [] [(jFy, jYb dC dI G_189), (jFs11, jSef dC dI G_189)] H_209 locs_209 := (((hh_215.call hb_2091 hb_2092 hb_2093 hb_2094 hS_209 rfl (L1 := [(r0, 13, 6, .ref printer_168), (r1, 10, 3, .int isStatement_164), (kernel_138, 7, 2, .ref start_141), (r0, 13, 5, .ref kernel_138), (r1, 10, 2, .int needed_135), (r1, 10, 1, .ref about_4), (r0, 13, 4, .ref bo), (r0, 13, 3, .ref ou)]) [4, 5, 6, 7, 8, 9, 10, 11] rfl rfl (M1 := []) [] rfl rfl (I1 := [(jFs11, jSef dC dI G_189)]) [2] rfl rfl).more hb_2095)).addIs hbE_209
      have hh_217 := hh_209.more (P1 := [(bo, 2, 1, .int qc_189), (bo, 2, 0, .ref qa_189)]) (jP.cons hg_199 (hbO_209 _ _ _ _ (jn1 (by first | assumption | exact Ne.symm (by assumption) | exact jnek hg_199 hg_200 (by decide))) hg_199 (hh_215.at 2 rfl)) (jP.cons hg_199 (hbO_209 _ _ _ _ (jn1 (by first | assumption | exact Ne.symm (by assumption) | exact jnek hg_199 hg_200 (by decide))) hg_199 (hh_215.at 3 rfl)) jP.nil))
      have hd_218 := jOl.trL (hh_215.iv 1 rfl) hh_215.2.2.2.2.1 hbO_209 (by simp)
      have hh_219 := hh_217.addI (jOl.ie (dC := dC) (dI := dI) (G0 := G0) (k := 2) (rs := [bo, ou]) (H0 := s.heap) (F := [(2, 0), (2, 1)]) (C := RX0) (T := TX0) (N := 2) rfl (by decide) hh_217.2.2.2.2.1 (hd_218))
      clear hh_217
      clear hh_215 ht_209 hvm_209 hz_209 hk_209 hS_209 hb_2091 hb_2092 hb_2093 hb_2094 hb_2095
      clear  hbE_209
      have hsz_220 := hh_219.2.2.2.2.2.1
      have htt_220 := hh_219.2.2.2.2.2.2.1
      refine W.room (fun hrc_220 hrs_220 => ?_)
      refine W.widen (k := LC - s.heap.size) (n := LS - jTot s.heap) (by omega) (by omega) ?_
      rw [hQ]
      exact W.vret hx hb hr (fun t ht hW => ⟨⟨(qc_189, qa_189, m_qa_189, G_189), rfl, by (try dsimp only); exact ⟨(by first | omega | rfl | assumption | fail), (by first | omega | rfl | assumption | fail), (by first | omega | rfl | assumption | fail), (by first | omega | rfl | assumption | fail), (by first | assumption | fail | omega)⟩, ⟨hh_219.ra (by first | omega | (simp only; omega)) (by first | omega | (simp only; omega)) (M1 := [(bo, 2, 1, .int qc_189), (bo, 2, 0, .ref qa_189)]) [0, 1] rfl ht, hgq_189_0, hNn_189, by rw [ht]; exact hh_219.iv 0 rfl, by rw [ht]; exact hh_219.2.2.2.2.2.2.2.2.sub (L1 := [(jFy, jYb dC dI G_189), (jFs11, jSef dC dI G_189)]) [1, 2] rfl⟩⟩, by rw [ht]; try exact hh_219.1.1, fun q h9 hq => by rw [ht]; try exact hh_219.1.2.1 q h9 hq⟩) hh_219.1.2.2 dX11_reply_95
    · skip
      have c_165' : isStatement_164.toInt ≠ 0 := jb_eq_n (rfl) ((by decide)) c_165
      refine lv_aload_n hx hb dX11_reply_51 rfl (lv_at hl 1 rfl) ?_
      obtain ⟨v_221, hv_221, hh_222⟩ := hh_163.pin (C := RX11) (T := TX11) (N := 19) hB13 rfl (by decide) hg_148 (i := 6) (by decide) rfl
      clear hh_163
      obtain ⟨printer_223, rfl, hg_printer_223⟩ := hv_221
      refine j7_read hx hb hown hK (C := RX11) (T := TX11) (N := 19) rfl hly_13_6 hlk_54 (hh_222.at 0 rfl) dX11_reply_52 ?_
      refine lv_aload_n hx hb dX11_reply_55 rfl (lv_at hl 0 rfl) ?_
      refine lv_aload_n hx hb dX11_reply_56 rfl (lv_at hl 2 rfl) ?_
      obtain ⟨v_224, hv_224, hh_225⟩ := hh_222.pin (C := RX8) (T := TX8) (N := 5) hB10 rfl (by decide) hg_149 (i := 4) (by decide) rfl
      clear hh_222
      obtain ⟨name_226, rfl⟩ := hv_224
      refine j7_read hx hb hown hK (C := RX8) (T := TX8) (N := 5) rfl hly_10_4 hlk_451 (hh_225.at 0 rfl) dX11_reply_57 ?_
      refine lv_aload_n hx hb dX11_reply_60 rfl (lv_at hl 1 rfl) ?_
      refine j7_read hx hb hown hK (C := RX11) (T := TX11) (N := 19) rfl hly_13_4 hlk_35 (hh_225.at 9 rfl) dX11_reply_61 ?_
      have hsz_227 := hh_225.2.2.2.2.2.1
      have htt_227 := hh_225.2.2.2.2.2.2.1
      refine W.room (fun hrc_227 hrs_227 => ?_)
      refine va_callv (A0 := jA base) (H0 := s.heap) (va_runV (As := [.ref ret_144, .int name_226, .ref bo]) (rest := []) ⟨hx, hb, hml, hown, hts⟩ (uX7_statement l dC dI ca base B hB hAp hB2 hB8 hB9 hB11 hB101 hB102 hB132 hB196 hB280 hB286 hB287 hB288 hB313 G_145 H_145 printer_223 ret_144 name_226 bo qc_145 qa_145 m_qa_145 LC LS) (cwV 3 hts (jgV (jWr_30 _ (List.mem_of_getElem? (i := 13) rfl)) (jWr_30 _ (List.mem_of_getElem? (i := 14) rfl)) (jWr_30 _ (List.mem_of_getElem? (i := 15) rfl)) (jWr_2 _ (List.mem_of_getElem? (i := 8) rfl)) (jWr_30 _ (List.mem_of_getElem? (i := 16) rfl))) rfl rfl rfl (by decide +kernel) ⟨by rw [← hR]; exact Nat.le_of_ble_eq_true rfl, by rw [← hR]; exact Nat.le_of_ble_eq_true rfl⟩) ⟨fun a U g mk q => by obtain ⟨q0, q1, q2, qK, q10, q11, q12, q13, q14, q15, q16, q17⟩ := q; exact ⟨q0, q1, q2, jG.calling g mk a qK, (jK5.moved (Vm.Alike.refl U.vm) q10), q11, q12, q13, q14, q15, q16, q17⟩, hh_225.recv (C := RX7) (T := TX7) (N := 5) hB9 rfl (by decide) hg_printer_223 hK, fun U hU hW => ⟨rfl, hU, hh_225.2.1, hG.step hW hU hh_225.1, jK5.moved hW.alike hK5, hg_153, hg_147, hg_printer_223, hgq_145_0, (hh_225.2.2.1.sub (L1 := [(bo, 2, 1, .int qc_145), (bo, 2, 0, .ref qa_145)]) [3, 4] rfl), (hh_225.2.2.2.2.2.2.2.2.sub (L1 := [(jFs11, jSef dC dI G_145)]) [2] rfl), (by omega), (by omega), ⟨(by first | omega | rfl | assumption | fail), (by first | omega | rfl | assumption | fail), (by first | omega | rfl | assumption | fail), (by first | omega | rfl | assumption | fail), (by first | assumption | fail | omega)⟩⟩⟩ rfl rfl hl.1 rfl (lv_room (Nat.le_of_ble_eq_true rfl)) dX11_reply_64 ⟨by rw [hRc]; omega, by rw [hRs]; omega⟩) hh_225.1 (fun q _ h => h) (fun q h => h) (fun u_227 t_227 H_227 locs_227 ht_227 hvm_227 hr_228 hb_227 hz_227 hk_227 hS_227 => ?_)
      obtain ⟨qc_227, qa_227, m_qa_227, G_227⟩ := u_227
      rw [ht_227] at hb_227
      simp only at hb_227
      obtain ⟨⟨hb_2271, hb_2272, hb_2273, hb_2274, hb_2275, hb_2276⟩, hgq_227_0, hN_227, hbO_227, hbE_227⟩ := hb_227
      have hy_229 := hh_225.iv 1 rfl
      have hh_227 : jSt (dC, dI) B base G0 G_227 EX11_reply s.heap (((m_qa_145 - n_pa) / 16) + ((m_qa_227 - m_qa_145) / 16)) ((2 * (m_qa_145 - n_pa)) + (2 * (m_qa_227 - m_qa_145))) [(bo, 2, 1, .int qc_227), (bo, 2, 0, .ref qa_227), (r1, 10, 4, .int name_226), (r0, 13, 6, .ref printer_223), (r1, 10, 3, .int isStatement_164), (kernel_138, 7, 2, .ref start_141), (r0, 13, 5, .ref kernel_138), (r1, 10, 2, .int needed_135), (r1, 10, 1, .ref about_4), (r0, 13, 4, .ref bo), (r0, 13, 3, .ref ou)] [] [] H_227 locs_227 := (hh_225.callG hb_2271 hb_2272 hb_2273 hb_2274 hb_2275 hS_227 rfl (L1 := [(r1, 10, 4, .int name_226), (r0, 13, 6, .ref printer_223), (r1, 10, 3, .int isStatement_164), (kernel_138, 7, 2, .ref start_141), (r0, 13, 5, .ref kernel_138), (r1, 10, 2, .int needed_135), (r1, 10, 1, .ref about_4), (r0, 13, 4, .ref bo), (r0, 13, 3, .ref ou)]) [0, 1, 2, 5, 6, 7, 8, 9, 10] rfl rfl (M1 := []) [] rfl rfl (I1 := []) [] rfl rfl).more hb_2276
      have hNn_227 : (jNk [0, 1, 2, 3, 4, 5, 6, 7, 8, 9, 10, 11, 12, 13, 14, 15, 16, 17, 175]) G0 G_227 := (hNn_145).tr hN_227
      have hg_230 := hb_2272 _ _ hg_147
      have hg_231 := hb_2272 _ _ hg_148
      have hg_232 := hb_2272 _ _ hg_149
      have hg_233 := hb_2272 _ _ hg_printer_223
      have hg_234 := hb_2272 _ _ hg_150
      have hg_235 := hb_2272 _ _ hg_151
      have hg_236 := hb_2272 _ _ hg_152
      have hg_237 := hb_2272 _ _ hg_153
      have hg_238 := hb_2272 _ _ hg_154
      have hh_239 := hh_227.addIs hbE_227
      have hd_240 := jOl.trO (hh_225.iv 0 rfl) hh_225.2.2.2.2.1 hbO_227 (by simp)
      have hh_241 := hh_239.addI (jOl.ie (dC := dC) (dI := dI) (G0 := G0) (k := 2) (rs := [bo, ou]) (H0 := s.heap) (F := [(2, 0), (2, 1)]) (C := RX0) (T := TX0) (N := 2) rfl (by decide) hh_239.2.2.2.2.1 (hd_240))
      clear hh_239
      have hyp_227 : qc_227.toInt ≤ (m_qa_227 : Nat) ∧ m_qa_227 ≤ 1048576 := by (try simp only at hr_228); omega
      have hy_242 := jYb.own hy_229 hbO_227 hb_2272 hN_227 (by decide) (fun _ => ⟨_, _, _, hh_241.at 0 rfl, hh_241.at 1 rfl, hgq_227_0, hyp_227⟩)
      have hh_243 := hh_241.addI (jYb.ie hy_242)
      clear hh_241
      try simp only at hr_228
      obtain ⟨hr_228_0, hr_228_1, hr_228_2, hr_228_3, hr_228_4⟩ := hr_228
      have hh_244 := hh_243.wk (zc1 := (m_qa_227 - n_pa) / 16) (zs1 := 2 * (m_qa_227 - n_pa)) (by omega) (by omega)
      clear hh_243
      try clear hsz_227 htt_227 hrc_227 hrs_227
      try clear hb_2274 hb_2275
      refine lv_goto (tgt := 82) hx hb dX11_reply_67 (by decide) ?_
      refine lv_aload_n hx hb dX11_reply_82 rfl (lv_at hl 1 rfl) ?_
      refine j7_read hx hb hown hK (C := RX11) (T := TX11) (N := 19) rfl hly_13_4 hlk_35 (hh_244.at 9 rfl) dX11_reply_83 ?_
      refine lv_bipush (v := 125) hx hb dX11_reply_86 (by decide) ?_
      have hsz_245 := hh_244.2.2.2.2.2.1
      have htt_245 := hh_244.2.2.2.2.2.2.1
      refine W.room (fun hrc_245 hrs_245 => ?_)
      refine va_callv (A0 := jA base) (H0 := s.heap) (va_runV (As := [.int 125]) (rest := []) ⟨hx, hb, hml, hown, hts⟩ (uX0_put l dC dI ca base B hB hAp hB2 hB196 G_227 H_227 bo 125 qc_227 qa_227 m_qa_227 LC LS) (cwV 1 hts (jgV (jWr_15 _ (List.mem_of_getElem? (i := 23) rfl)) (jWr_16 _ (List.mem_of_getElem? (i := 0) rfl)) (jWr_16 _ (List.mem_of_getElem? (i := 1) rfl)) (jWr_1 _ (List.mem_of_getElem? (i := 14) rfl)) (jWr_16 _ (List.mem_of_getElem? (i := 2) rfl))) rfl rfl rfl (by decide +kernel) ⟨by rw [← hR]; exact Nat.le_of_ble_eq_true rfl, by rw [← hR]; exact Nat.le_of_ble_eq_true rfl⟩) ⟨fun a U g mk q => by obtain ⟨q0, q1, q2, qK, q10, q11, q12, q13⟩ := q; exact ⟨q0, q1, q2, jG.calling g mk a qK, q10, q11, q12, q13⟩, hh_244.recv (C := RX0) (T := TX0) (N := 2) hB2 rfl (by decide) hg_237 hK, fun U hU hW => ⟨rfl, hU, hh_244.2.1, hG.step hW hU hh_244.1, hg_237, hgq_227_0, (hh_244.2.2.1.sub (L1 := [(bo, 2, 1, .int qc_227), (bo, 2, 0, .ref qa_227)]) [0, 1] rfl), (by omega), (by omega), ⟨(by first | omega | rfl | assumption | fail), (by first | omega | rfl | assumption | fail), (by first | omega | rfl | assumption | fail), (by first | omega | rfl | assumption | fail), (by first | assumption | fail | omega)⟩⟩⟩ rfl rfl hl.1 rfl (lv_room (Nat.le_of_ble_eq_true rfl)) dX11_reply_88 ⟨by rw [hRc]; omega, by rw [hRs]; omega⟩) hh_244.1 (fun q _ h => h) (fun q h => h) (fun u_245 t_245 H_245 locs_245 ht_245 hvm_245 hr_246 hb_245 hz_245 hk_245 hS_245 => ?_)
      obtain ⟨qc_245, qa_245, m_qa_245, G_245⟩ := u_245
      rw [ht_245] at hb_245
      simp only at hb_245
      obtain ⟨⟨hb_2451, hb_2452, hb_2453, hb_2454, hb_2455, hb_2456⟩, hgq_245_0, hN_245, hbO_245⟩ := hb_245
      have hy_247 := hh_244.iv 0 rfl
      have hh_245 : jSt (dC, dI) B base G0 G_245 EX11_reply s.heap (((m_qa_227 - n_pa) / 16) + ((m_qa_245 - m_qa_227) / 16)) ((2 * (m_qa_227 - n_pa)) + (2 * (m_qa_245 - m_qa_227))) [(bo, 2, 1, .int qc_245), (bo, 2, 0, .ref qa_245), (r1, 10, 4, .int name_226), (r0, 13, 6, .ref printer_223), (r1, 10, 3, .int isStatement_164), (kernel_138, 7, 2, .ref start_141), (r0, 13, 5, .ref kernel_138), (r1, 10, 2, .int needed_135), (r1, 10, 1, .ref about_4), (r0, 13, 4, .ref bo), (r0, 13, 3, .ref ou)] [] [(jFs11, jSef dC dI G_227)] H_245 locs_245 := (hh_244.callG hb_2451 hb_2452 hb_2453 hb_2454 hb_2455 hS_245 rfl (L1 := [(r1, 10, 4, .int name_226), (r0, 13, 6, .ref printer_223), (r1, 10, 3, .int isStatement_164), (kernel_138, 7, 2, .ref start_141), (r0, 13, 5, .ref kernel_138), (r1, 10, 2, .int needed_135), (r1, 10, 1, .ref about_4), (r0, 13, 4, .ref bo), (r0, 13, 3, .ref ou)]) [2, 3, 4, 5, 6, 7, 8, 9, 10] rfl rfl (M1 := []) [] rfl rfl (I1 := [(jFs11, jSef dC dI G_227)]) [2] rfl rfl).more hb_2456
      have hNn_245 : (jNk [0, 1, 2, 3, 4, 5, 6, 7, 8, 9, 10, 11, 12, 13, 14, 15, 16, 17, 175]) G0 G_245 := (hNn_227).tr hN_245
      have hg_248 := hb_2452 _ _ hg_230
      have hg_249 := hb_2452 _ _ hg_231
      have hg_250 := hb_2452 _ _ hg_232
      have hg_251 := hb_2452 _ _ hg_233
      have hg_252 := hb_2452 _ _ hg_234
      have hg_253 := hb_2452 _ _ hg_235
      have hg_254 := hb_2452 _ _ hg_236
      have hg_255 := hb_2452 _ _ hg_237
      have hg_256 := hb_2452 _ _ hg_238
      have hd_257 := jSef.grow (hh_245.iv 0 rfl) hb_2452 hN_245 (by decide)
      have hh_258 := hh_245.sub (L1 := [(bo, 2, 1, .int qc_245), (bo, 2, 0, .ref qa_245), (r1, 10, 4, .int name_226), (r0, 13, 6, .ref printer_223), (r1, 10, 3, .int isStatement_164), (kernel_138, 7, 2, .ref start_141), (r0, 13, 5, .ref kernel_138), (r1, 10, 2, .int needed_135), (r1, 10, 1, .ref about_4), (r0, 13, 4, .ref bo), (r0, 13, 3, .ref ou)]) [0, 1, 2, 3, 4, 5, 6, 7, 8, 9, 10] rfl (M1 := []) [] rfl (I1 := []) [] rfl
      clear hh_245
      have hh_259 := hh_258.addI (jSef.ie hd_257)
      clear hh_258
      have hd_260 := jOl.trO (hh_244.iv 1 rfl) hh_244.2.2.2.2.1 hbO_245 (by simp)
      have hh_261 := hh_259.addI (jOl.ie (dC := dC) (dI := dI) (G0 := G0) (k := 2) (rs := [bo, ou]) (H0 := s.heap) (F := [(2, 0), (2, 1)]) (C := RX0) (T := TX0) (N := 2) rfl (by decide) hh_259.2.2.2.2.1 (hd_260))
      clear hh_259
      have hyp_245 : qc_245.toInt ≤ (m_qa_245 : Nat) ∧ m_qa_245 ≤ 1048576 := by (try simp only at hr_246); omega
      have hy_262 := jYb.own hy_247 hbO_245 hb_2452 hN_245 (by decide) (fun _ => ⟨_, _, _, hh_261.at 0 rfl, hh_261.at 1 rfl, hgq_245_0, hyp_245⟩)
      have hh_263 := hh_261.addI (jYb.ie hy_262)
      clear hh_261
      try simp only at hr_246
      obtain ⟨hr_246_0, hr_246_1, hr_246_2, hr_246_3, hr_246_4⟩ := hr_246
      have hh_264 := hh_263.wk (zc1 := (m_qa_245 - n_pa) / 16) (zs1 := 2 * (m_qa_245 - n_pa)) (by omega) (by omega)
      clear hh_263
      try clear hsz_245 htt_245 hrc_245 hrs_245
      try clear hb_2454 hb_2455
      refine lv_aload_n hx hb dX11_reply_91 rfl (lv_at hl 1 rfl) ?_
      obtain ⟨v_267, hv_267, hh_268⟩ := hh_264.pin (C := RX0) (T := TX0) (N := 2) hB2 rfl (by decide) hg_256 (i := 1) (by decide) rfl
      obtain ⟨count_269, rfl, hlocount_269, hhicount_269, hfxcount_269⟩ := hv_267
      obtain ⟨v_270, hv_270, hh_271⟩ := hh_268.pin (C := RX0) (T := TX0) (N := 2) hB2 rfl (by decide) hg_256 (i := 0) (by decide) rfl
      obtain ⟨row_272, nrow_272, rfl, hg_row_272, hlorow_272, hhirow_272, hpwrow_272, hfxrow_272⟩ := jBr.k6 (by decide) hv_270
      have hsz_265 := hh_271.2.2.2.2.2.1
      have htt_265 := hh_271.2.2.2.2.2.2.1
      refine W.room (fun hrc_265 hrs_265 => ?_)
      refine va_callv (A0 := jA base) (H0 := s.heap) (va_runV (As := []) (rest := []) ⟨hx, hb, hml, hown, hts⟩ (uX11_send l dC dI ca base B hB hAp hB2 hB4 hB13 hB17 hB196 hB199 G_245 H_245 r0 bo qc_245 qa_245 m_qa_245 ou count_269 row_272 nrow_272) (cwV 0 hts (jgV (jWr_26 _ (List.mem_of_getElem? (i := 20) rfl)) (jWr_26 _ (List.mem_of_getElem? (i := 21) rfl)) (jWr_26 _ (List.mem_of_getElem? (i := 22) rfl)) (jWr_1 _ (List.mem_of_getElem? (i := 2) rfl)) (jWr_26 _ (List.mem_of_getElem? (i := 23) rfl))) rfl rfl rfl (by decide +kernel) ⟨by rw [← hR]; exact Nat.le_of_ble_eq_true rfl, by rw [← hR]; exact Nat.le_of_ble_eq_true rfl⟩) ⟨fun a U g mk q => by obtain ⟨q0, q1, q2, qK, q10, q11, q12, q13, q14, q15, q16, q17⟩ := q; exact ⟨q0, q1, q2, jG.calling g mk a qK, q10, q11, q12, q13, q14, q15, q16, q17⟩, hh_271.recv (C := RX11) (T := TX11) (N := 19) hB13 rfl (by decide) hg_249 hK, fun U hU hW => ⟨rfl, hU, hh_271.2.1, hG.step hW hU hh_271.1, hg_249, hg_255, hgq_245_0, hg_256, hg_row_272, (hh_271.2.2.1.sub (L1 := [(r0, 13, 4, .ref bo), (bo, 2, 1, .int qc_245), (bo, 2, 0, .ref qa_245), (r0, 13, 3, .ref ou), (ou, 2, 1, .int count_269), (ou, 2, 0, .ref row_272)]) [11, 2, 3, 12, 1, 0] rfl), (hh_271.2.2.2.2.2.2.2.2.sub (L1 := [(jFy, jYb dC dI G_245)]) [0] rfl), ⟨(by first | omega | rfl | assumption | fail), (by first | omega | rfl | assumption | fail), (by first | omega | rfl | assumption | fail), (by first | omega | rfl | assumption | fail), (by first | omega | rfl | assumption | fail), (by first | omega | rfl | assumption | fail)⟩⟩⟩ rfl rfl hl.1 rfl (lv_room (Nat.le_of_ble_eq_true rfl)) dX11_reply_92 ⟨by rw [hRc]; show _ + 0 ≤ _; omega, by rw [hRs]; show _ + 0 ≤ _; omega⟩) hh_271.1 (fun q _ h => h) (fun q h => h) (fun u_265 t_265 H_265 locs_265 ht_265 hvm_265 hr_266 hb_265 hz_265 hk_265 hS_265 => ?_)
      rw [ht_265] at hb_265
      obtain ⟨hb_265, hbE_265⟩ := hb_265
      obtain ⟨hb_265, hbO_265⟩ := hb_265
      obtain ⟨hb_2651, hb_2652, hb_2653, hb_2654, hb_2655⟩ := hb_265
      have hh_265 : jSt (dC, dI) B base G0 G_245 EX11_reply s.heap ((m_qa_245 - n_pa) / 16) (2 * (m_qa_245 - n_pa)) [(r1, 10, 4, .int name_226), (r0, 13, 6, .ref printer_223), (r1, 10, 3, .int isStatement_164), (kernel_138, 7, 2, .ref start_141), (r0, 13, 5, .ref kernel_138), (r1, 10, 2, .int needed_135), (r1, 10, 1, .ref about_4), (r0, 13, 4, .ref bo), (r0, 13, 3, .ref ou)] [] [(jFy, jYb dC dI G_245), (jFs11, jSef dC dI G_245)] H_265 locs_265 := (((hh_271.call hb_2651 hb_2652 hb_2653 hb_2654 hS_265 rfl (L1 := [(r1, 10, 4, .int name_226), (r0, 13, 6, .ref printer_223), (r1, 10, 3, .int isStatement_164), (kernel_138, 7, 2, .ref start_141), (r0, 13, 5, .ref kernel_138), (r1, 10, 2, .int needed_135), (r1, 10, 1, .ref about_4), (r0, 13, 4, .ref bo), (r0, 13, 3, .ref ou)]) [4, 5, 6, 7, 8, 9, 10, 11, 12] rfl rfl (M1 := []) [] rfl rfl (I1 := [(jFs11, jSef dC dI G_245)]) [2] rfl rfl).more hb_2655)).addIs hbE_265
      have hh_273 := hh_265.more (P1 := [(bo, 2, 1, .int qc_245), (bo, 2, 0, .ref qa_245)]) (jP.cons hg_255 (hbO_265 _ _ _ _ (jn1 (by first | assumption | exact Ne.symm (by assumption) | exact jnek hg_255 hg_256 (by decide))) hg_255 (hh_271.at 2 rfl)) (jP.cons hg_255 (hbO_265 _ _ _ _ (jn1 (by first | assumption | exact Ne.symm (by assumption) | exact jnek hg_255 hg_256 (by decide))) hg_255 (hh_271.at 3 rfl)) jP.nil))
      have hd_274 := jOl.trL (hh_271.iv 1 rfl) hh_271.2.2.2.2.1 hbO_265 (by simp)
      have hh_275 := hh_273.addI (jOl.ie (dC := dC) (dI := dI) (G0 := G0) (k := 2) (rs := [bo, ou]) (H0 := s.heap) (F := [(2, 0), (2, 1)]) (C := RX0) (T := TX0) (N := 2) rfl (by decide) hh_273.2.2.2.2.1 (hd_274))
      clear hh_273
      clear hh_271 ht_265 hvm_265 hz_265 hk_265 hS_265 hb_2651 hb_2652 hb_2653 hb_2654 hb_2655
      clear  hbE_265
      have hsz_276 := hh_275.2.2.2.2.2.1
      have htt_276 := hh_275.2.2.2.2.2.2.1
      refine W.room (fun hrc_276 hrs_276 => ?_)
      refine W.widen (k := LC - s.heap.size) (n := LS - jTot s.heap) (by omega) (by omega) ?_
      rw [hQ]
      exact W.vret hx hb hr (fun t ht hW => ⟨⟨(qc_245, qa_245, m_qa_245, G_245), rfl, by (try dsimp only); exact ⟨(by first | omega | rfl | assumption | fail), (by first | omega | rfl | assumption | fail), (by first | omega | rfl | assumption | fail), (by first | omega | rfl | assumption | fail), (by first | assumption | fail | omega)⟩, ⟨hh_275.ra (by first | omega | (simp only; omega)) (by first | omega | (simp only; omega)) (M1 := [(bo, 2, 1, .int qc_245), (bo, 2, 0, .ref qa_245)]) [0, 1] rfl ht, hgq_245_0, hNn_245, by rw [ht]; exact hh_275.iv 0 rfl, by rw [ht]; exact hh_275.2.2.2.2.2.2.2.2.sub (L1 := [(jFy, jYb dC dI G_245), (jFs11, jSef dC dI G_245)]) [1, 2] rfl⟩⟩, by rw [ht]; try exact hh_275.1.1, fun q h9 hq => by rw [ht]; try exact hh_275.1.2.1 q h9 hq⟩) hh_275.1.2.2 dX11_reply_95
end
section
theorem dX11_answerReady_0 : decode cX11_answerReady 0 = .ok (.iconst 0, 1) := by decide +kernel
theorem dX11_answerReady_1 : decode cX11_answerReady 1 = .ok (.istore_n 1, 1) := by decide +kernel
theorem dX11_answerReady_2 : decode cX11_answerReady 2 = .ok (.iconst 0, 1) := by decide +kernel
theorem dX11_answerReady_3 : decode cX11_answerReady 3 = .ok (.istore_n 2, 1) := by decide +kernel
theorem dX11_answerReady_4 : decode cX11_answerReady 4 = .ok (.iload_n 2, 1) := by decide +kernel
theorem dX11_answerReady_5 : decode cX11_answerReady 5 = .ok (.bipush 12, 2) := by decide +kernel
theorem dX11_answerReady_7 : decode cX11_answerReady 7 = .ok (.if_icmp .ge 64, 3) := by decide +kernel
theorem dX11_answerReady_10 : decode cX11_answerReady 10 = .ok (.iload_n 1, 1) := by decide +kernel
theorem dX11_answerReady_11 : decode cX11_answerReady 11 = .ok (.aload_n 0, 1) := by decide +kernel
theorem dX11_answerReady_12 : decode cX11_answerReady 12 = .ok (.getfield 65, 3) := by decide +kernel
theorem dX11_answerReady_15 : decode cX11_answerReady 15 = .ok (.invokeinterface 142 1, 5) := by decide +kernel
theorem dX11_answerReady_20 : decode cX11_answerReady 20 = .ok (.if_icmp .ge 51, 3) := by decide +kernel
theorem dX11_answerReady_23 : decode cX11_answerReady 23 = .ok (.aload_n 0, 1) := by decide +kernel
theorem dX11_answerReady_24 : decode cX11_answerReady 24 = .ok (.getfield 65, 3) := by decide +kernel
theorem dX11_answerReady_27 : decode cX11_answerReady 27 = .ok (.iload_n 1, 1) := by decide +kernel
theorem dX11_answerReady_28 : decode cX11_answerReady 28 = .ok (.invokeinterface 249 2, 5) := by decide +kernel
theorem dX11_answerReady_33 : decode cX11_answerReady 33 = .ok (.checkcast 115, 3) := by decide +kernel
theorem dX11_answerReady_36 : decode cX11_answerReady 36 = .ok (.invokevirtual 453, 3) := by decide +kernel
theorem dX11_answerReady_39 : decode cX11_answerReady 39 = .ok (.ifCond .eq 23, 3) := by decide +kernel
theorem dX11_answerReady_42 : decode cX11_answerReady 42 = .ok (.aload_n 0, 1) := by decide +kernel
theorem dX11_answerReady_43 : decode cX11_answerReady 43 = .ok (.aload_n 0, 1) := by decide +kernel
theorem dX11_answerReady_44 : decode cX11_answerReady 44 = .ok (.getfield 65, 3) := by decide +kernel
theorem dX11_answerReady_47 : decode cX11_answerReady 47 = .ok (.iload_n 1, 1) := by decide +kernel
theorem dX11_answerReady_48 : decode cX11_answerReady 48 = .ok (.invokeinterface 423 2, 5) := by decide +kernel
theorem dX11_answerReady_53 : decode cX11_answerReady 53 = .ok (.checkcast 115, 3) := by decide +kernel
theorem dX11_answerReady_56 : decode cX11_answerReady 56 = .ok (.invokevirtual 456, 3) := by decide +kernel
theorem dX11_answerReady_59 : decode cX11_answerReady 59 = .ok (.goto 6, 3) := by decide +kernel
theorem dX11_answerReady_62 : decode cX11_answerReady 62 = .ok (.iinc 1 1, 3) := by decide +kernel
theorem dX11_answerReady_65 : decode cX11_answerReady 65 = .ok (.iinc 2 1, 3) := by decide +kernel
theorem dX11_answerReady_68 : decode cX11_answerReady 68 = .ok (.goto (-64), 3) := by decide +kernel
theorem dX11_answerReady_71 : decode cX11_answerReady 71 = .ok (.return_, 1) := by decide +kernel
end
section
-- an array of ints is cloned
theorem jK8.warm {s U : State} (hW : s.WarmedH U.vm) (h : jK8 s) : jK8 U := va_Nw.warmC hW h
section J40
variable {p : Program} {l : Launch} {e : Env} {R : Room} {s : State} {m : MethodId} {args : Array Value} {below : List Frame} {meth : Method} {c : Code} {H : Heap} {locs : List Loc} {cells slots : Nat} {Q : State → Prop}
variable {cc : ByteArray} {pc : Nat} {ls : Array Slot} {rest : List Value} {dC : Nat → ClassId} {dI : Nat → Nat → Nat} {B : jF} {base : Nat} {G0 G : jT} {E : List (Nat × Nat)} {H0 : Heap} {zc zs : Nat} {L : List jPin} {M : List jCt} {I : List jIv} {a k n index : Nat} {tys : List (ClassId × FieldType)} {own : String}
theorem W.cloneI {D : va_G} {cl : List vw_C} {cA : ClassId} {f : Nat → Int32} (hexec : p.tables.exec = Jvm.exec) (hb : c.code = cc) (hml : c.maxLocals = ls.size) (hown : s.vm.findClass own = some m.cls)
    (hlink : (Cond.methodLink own index ⟨"[I", "clone", "()Ljava/lang/Object;"⟩).before args s = true) (hsame : (Cond.sameMethod "[I" "java/lang/Object" "clone" "()Ljava/lang/Object;").before args s = true)
    (hnat : (Cond.native ⟨"java/lang/Object", "clone", "()Ljava/lang/Object;"⟩).before args s = true) (hinst : (Cond.instanceMethod ⟨"java/lang/Object", "clone", "()Ljava/lang/Object;"⟩).before args s = true)
    (hsel : (Cond.selects "[I" ⟨"[I", "clone", "()Ljava/lang/Object;"⟩ ⟨"java/lang/Object", "clone", "()Ljava/lang/Object;"⟩).before args s = true) (hK8 : jK8 s)
    (hK : va_K D cl tys s) (t0 : Nat) (ht : tys[t0]? = some (cA, .int)) (hat : H[a]? = some (vp_cell cA (n, .inl f)))
    (hframes : 1 ≤ R.frames) (hlocals : (rest.map fun v => v.category).sum + 14 ≤ R.locals) (hcells : cells + 1 ≤ R.cells) (hslots : slots + n ≤ R.slots) (hdg : decode cc pc = .ok (.invokevirtual index, 3))
    (kk : ∀ H1 : Heap, H1[H.size]? = some (vp_cell cA (n, .inl f)) → H1.size = H.size + 1 → (∀ q : Nat, q < H.size → H1[q]? = H[q]?) →
      W p l e R s m args below meth c H1 locs (cells + 1) (slots + n) Q (F0 m (pc + 3) ls (.ref H.size :: rest))) : W p l e R s m args below meth c H locs cells slots Q (F0 m pc ls (.ref a :: rest)) := by
  have hsz : (vp_cell cA (n, .inl f)).slots.size = n := arrV_size _ _ _
  have hvm0 : (vp_cell cA (n, .inl f)).vm = .none := rfl
  have hcl0 : (vp_cell cA (n, .inl f)).cls = cA := rfl
  have hcellE : ({ cls := (vp_cell cA (n, .inl f)).cls, slots := (vp_cell cA (n, .inl f)).slots } : Cell) = vp_cell cA (n, .inl f) := rfl
  have hnm := va_nm_int (hK.2 t0 _ ht).2
  obtain ⟨c0, t1, f1, f2, f3⟩ := Cond.castable_spec (va_Nw.use (A := args) rfl hK8)
  cases hnm.symm.trans f1
  intro T hT X
  have hcellT : T.heap[a]? = some (vp_cell cA (n, .inl f)) := by rw [hT]; exact hat
  obtain ⟨-, kA, hkA, comp, hkind⟩ := State.isArrayOf_alike X.warmed.alike ((hK.2 t0 _ ht).1 0 (fun _ => .null))
  obtain ⟨-, kS, hkS, compS, hkindS⟩ := (hK.2 t0 _ ht).1 0 (fun _ => .null)
  obtain ⟨vm', X', st⟩ := X.cloneArray hexec hown hlink hsame hnat hinst hsel (a := a) (cell := vp_cell cA (n, .inl f)) hcellT (fun k h => by rw [hvm0] at h; cases h) (by rw [hvm0]; exact fun h => by cases h) (by rw [hcl0]; exact hnm) f2 (by rw [hcl0]; exact f3)
    (fun i v hv => by
      rw [hcl0]
      have hk' : T.vm.classes[cA]? = some kA := hkA
      have hf0 : fits .int v = true := va_fit (ty := .int) (fun _ _ => rfl) i v hv
      simpa [State.fitsSlot, State.slotType?, hk', hkind] using hf0)
    (g := F0 m pc ls (.ref a :: rest)) rfl (by rw [hml]) rfl (by rw [hb]; exact hdg) hframes (by show 2 * 0 + _ + 14 ≤ _; omega) hcells (by rw [hsz]; exact hslots) (hloader := by rw [hcl0]; exact Vm.clonesLoader_of_array hkS hkindS)
  rw [hcellE, hsz] at X'
  generalize hH1 : H.push (vp_cell cA (n, .inl f)) = H1
  have z1 : H1.size = H.size + 1 := by rw [← hH1, Array.size_push]
  have e1 : H1[H.size]? = some (vp_cell cA (n, .inl f)) := by rw [← hH1, Array.getElem?_push_size]
  have o1 : ∀ q : Nat, q < H.size → H1[q]? = H[q]? := fun q hq => by rw [← hH1, Array.getElem?_push, if_neg (Nat.ne_of_lt hq)]
  obtain ⟨t, b1, b2⟩ := kk H1 e1 z1 o1 ((T.setVm vm').pushCell (vp_cell cA (n, .inl f))) (by rw [← hH1, ← hT]; rfl) X'
  refine ⟨t, st t ?_, b2⟩
  rw [hcellE, hT]
  exact b1
end J40
end
