section
theorem dX11_answerOrWait_0 : decode cX11_answerOrWait 0 = .ok (.iload_n 2, 1) := by decide +kernel
theorem dX11_answerOrWait_1 : decode cX11_answerOrWait 1 = .ok (.ifCond .ne 14, 3) := by decide +kernel
theorem dX11_answerOrWait_4 : decode cX11_answerOrWait 4 = .ok (.aload_n 0, 1) := by decide +kernel
theorem dX11_answerOrWait_5 : decode cX11_answerOrWait 5 = .ok (.aload_n 1, 1) := by decide +kernel
theorem dX11_answerOrWait_6 : decode cX11_answerOrWait 6 = .ok (.sipush (-32602), 3) := by decide +kernel
theorem dX11_answerOrWait_9 : decode cX11_answerOrWait 9 = .ok (.invokevirtual 267, 3) := by decide +kernel
theorem dX11_answerOrWait_12 : decode cX11_answerOrWait 12 = .ok (.goto 54, 3) := by decide +kernel
theorem dX11_answerOrWait_15 : decode cX11_answerOrWait 15 = .ok (.aload_n 1, 1) := by decide +kernel
theorem dX11_answerOrWait_16 : decode cX11_answerOrWait 16 = .ok (.invokevirtual 453, 3) := by decide +kernel
theorem dX11_answerOrWait_19 : decode cX11_answerOrWait 19 = .ok (.ifCond .eq 11, 3) := by decide +kernel
theorem dX11_answerOrWait_22 : decode cX11_answerOrWait 22 = .ok (.aload_n 0, 1) := by decide +kernel
theorem dX11_answerOrWait_23 : decode cX11_answerOrWait 23 = .ok (.aload_n 1, 1) := by decide +kernel
theorem dX11_answerOrWait_24 : decode cX11_answerOrWait 24 = .ok (.invokevirtual 456, 3) := by decide +kernel
theorem dX11_answerOrWait_27 : decode cX11_answerOrWait 27 = .ok (.goto 39, 3) := by decide +kernel
theorem dX11_answerOrWait_30 : decode cX11_answerOrWait 30 = .ok (.aload_n 0, 1) := by decide +kernel
theorem dX11_answerOrWait_31 : decode cX11_answerOrWait 31 = .ok (.getfield 65, 3) := by decide +kernel
theorem dX11_answerOrWait_34 : decode cX11_answerOrWait 34 = .ok (.invokeinterface 142 1, 5) := by decide +kernel
theorem dX11_answerOrWait_39 : decode cX11_answerOrWait 39 = .ok (.bipush 12, 2) := by decide +kernel
theorem dX11_answerOrWait_41 : decode cX11_answerOrWait 41 = .ok (.if_icmp .ge 17, 3) := by decide +kernel
theorem dX11_answerOrWait_44 : decode cX11_answerOrWait 44 = .ok (.aload_n 0, 1) := by decide +kernel
theorem dX11_answerOrWait_45 : decode cX11_answerOrWait 45 = .ok (.getfield 65, 3) := by decide +kernel
theorem dX11_answerOrWait_48 : decode cX11_answerOrWait 48 = .ok (.aload_n 1, 1) := by decide +kernel
theorem dX11_answerOrWait_49 : decode cX11_answerOrWait 49 = .ok (.invokeinterface 374 2, 5) := by decide +kernel
theorem dX11_answerOrWait_54 : decode cX11_answerOrWait 54 = .ok (.pop, 1) := by decide +kernel
theorem dX11_answerOrWait_55 : decode cX11_answerOrWait 55 = .ok (.goto 11, 3) := by decide +kernel
theorem dX11_answerOrWait_58 : decode cX11_answerOrWait 58 = .ok (.aload_n 0, 1) := by decide +kernel
theorem dX11_answerOrWait_59 : decode cX11_answerOrWait 59 = .ok (.aload_n 1, 1) := by decide +kernel
theorem dX11_answerOrWait_60 : decode cX11_answerOrWait 60 = .ok (.sipush (-32600), 3) := by decide +kernel
theorem dX11_answerOrWait_63 : decode cX11_answerOrWait 63 = .ok (.invokevirtual 267, 3) := by decide +kernel
theorem dX11_answerOrWait_66 : decode cX11_answerOrWait 66 = .ok (.return_, 1) := by decide +kernel
def EX11_answerOrWait : List (Nat × Nat) := [(1, 0), (1, 1), (1, 2), (2, 0), (2, 1), (9, 2), (13, 14), (196, 0), (221, 0), (222, 0), (223, 0), (286, 0), (287, 0), (288, 0)]
set_option maxHeartbeats 4000000 in
set_option maxRecDepth 20000 in
theorem uX11_answerOrWait (l : Launch) (dC : Nat → ClassId) (dI : Nat → Nat → Nat) (ca : Nat → ClassId) (base : Nat) (B : jF) (hB : jBok B) (hAp : jAp (dC, dI)) (hB1 : ∀ n G a H, B 1 n G a H ↔ jOb (dC, dI) 1 3 (F1 n G) a H) (hB2 : ∀ n G a H, B 2 n G a H ↔ jOb (dC, dI) 2 2 (F2 n G) a H) (hB3 : ∀ n G a H, B 3 n G a H ↔ jOb (dC, dI) 3 17 (F3 n G) a H) (hB4 : ∀ n G a H, B 4 n G a H ↔ jOb (dC, dI) 4 12 (F4 n G) a H) (hB5 : ∀ n G a H, B 5 n G a H ↔ jOb (dC, dI) 5 4 (F5 n G) a H) (hB7 : ∀ n G a H, B 7 n G a H ↔ jOb (dC, dI) 7 11 (F7 n G) a H) (hB8 : ∀ n G a H, B 8 n G a H ↔ jOb (dC, dI) 8 4 (F8 n G) a H) (hB9 : ∀ n G a H, B 9 n G a H ↔ jOb (dC, dI) 9 5 (F9b n G) a H) (hB10 : ∀ n G a H, B 10 n G a H ↔ jOb (dC, dI) 10 5 (F10 n G) a H) (hB11 : ∀ n G a H, B 11 n G a H ↔ jOb (dC, dI) 11 9 (F11 n G) a H) (hB13 : ∀ n G a H, B 13 n G a H ↔ jOb (dC, dI) 13 19 (F13 n G) a H) (hB101 : ∀ n G a H, B 101 n G a H ↔ jAr (dC, dI) (ca 1) (fun j z => True) n a H) (hB102 : ∀ n G a H, B 102 n G a H ↔ jAl (dC, dI) (ca 2) n a H) (hB132 : ∀ n G a H, B 132 n G a H ↔ jAr (dC, dI) (ca 1) (fun j z => 0 ≤ z.toInt ∧ z.toInt ≤ 10) n a H) (hB196 : ∀ n G a H, B 196 n G a H ↔ jAr (dC, dI) (ca 0) (fun j z => jBf j z) n a H) (hB210 : ∀ n G a H, B 210 n G a H ↔ jAq (dC, dI) (ca 6) (jQn 11 0) n G a H) (hB214 : ∀ n G a H, B 214 n G a H ↔ jAq (dC, dI) (ca 7) (jQg) n G a H) (hB222 : ∀ n G a H, B 222 n G a H ↔ jAq (dC, dI) (ca 9) (jQn 10 0) n G a H) (hB280 : ∀ n G a H, B 280 n G a H ↔ jAr (dC, dI) (ca 1) (fun j z => -1 ≤ z.toInt) n a H) (hB286 : ∀ n G a H, B 286 n G a H ↔ jAr (dC, dI) (ca 1) (fun j z => (0 ≤ z.toInt ∨ z.toInt = -3)) n a H) (hB287 : ∀ n G a H, B 287 n G a H ↔ jAr (dC, dI) (ca 1) (fun j z => 0 ≤ z.toInt ∧ z.toInt ≤ 65535) n a H) (hB288 : ∀ n G a H, B 288 n G a H ↔ jAr (dC, dI) (ca 1) (fun j z => 0 ≤ z.toInt ∧ z.toInt ≤ 160) n a H) (hB313 : ∀ n G a H, B 313 n G a H ↔ jAq (dC, dI) (ca 8) (jQk 280 80) n G a H) (G0 : jT) (H0 : Heap) (r0 : Nat) (r1 : Nat) (a2 : Int32) (bo : Nat) (pc : Int32) (pa : Nat) (n_pa : Nat) (ou : Nat) (LC LS : Nat) : Met l yX11_answerOrWait (jw yX11_answerOrWait cX11_answerOrWait 3 none) ({ frames := 8, cells := LC - H0.size, slots := LS - jTot H0, locals := 241 }) (va_Pc [.ref r0, .ref r1, .int a2] (fun U => U.heap = H0 ∧ jX B base G0 [] H0 ∧ jG dC dI ca base U ∧ jK2 dC dI ca U ∧ jK5 dC dI ca U ∧ jK7 dC dI ca base U ∧ G0 r0 = some (13, 0) ∧ G0 r1 = some (10, 0) ∧ (a2 = 0 ∨ a2 = 1) ∧ G0 bo = some (2, 0) ∧ G0 pa = some (196, n_pa) ∧ G0 ou = some (2, 20000) ∧ jP (dC, dI) G0 H0 [(r0, 13, 4, .ref bo), (bo, 2, 1, .int pc), (bo, 2, 0, .ref pa), (r0, 13, 3, .ref ou)] ∧ jIs (dC, dI) G0 H0 [(jFy, jYb dC dI G0), (jFs11, jSef dC dI G0), (jFl, jLs dC dI ca G0 3 none)] ∧ H0.size + (1048576 - n_pa) / 16 + 2 ≤ LC ∧ jTot H0 + 2 * (1048576 - n_pa) + 40 ≤ LS ∧ 0 ≤ pc.toInt ∧ pc.toInt ≤ n_pa ∧ 16 ≤ n_pa ∧ n_pa ≤ 1048576 ∧ jPw n_pa)) (va_Qv (S := Int32 × Nat × Nat × jT) (fun u => 0 ≤ u.1.toInt ∧ u.1.toInt ≤ u.2.2.1 ∧ n_pa ≤ u.2.2.1 ∧ u.2.2.1 ≤ 1048576 ∧ jPw u.2.2.1) (fun u t => jRa (dC, dI) B base G0 u.2.2.2 EX11_answerOrWait H0 ((u.2.2.1 - n_pa) / 16 + 1) (2 * (u.2.2.1 - n_pa) + 40) [(bo, 2, 1, .int u.1), (bo, 2, 0, .ref u.2.1)] t.heap ∧ u.2.2.2 u.2.1 = some (196, u.2.2.1) ∧ (jNk [0, 1, 2, 3, 4, 5, 6, 7, 8, 9, 10, 11, 12, 13, 14, 15, 16]) G0 u.2.2.2 ∧ jOl (dC, dI) G0 2 [bo, ou] H0 t.heap ∧ jIs (dC, dI) u.2.2.2 t.heap [(jFy, jYb dC dI u.2.2.2), (jFs11, jSef dC dI u.2.2.2), (jFl, jLs dC dI ca u.2.2.2 3 none)]) (jA base)) (LC - H0.size) (LS - jTot H0) (jA base) := by
  refine Met.ofW (cc := cX11_answerOrWait) (maxL := 3) (ret := none) (by decide) rfl ?_
  intro p e s m args below meth c s₁ Bd hml hv
  obtain ⟨rfl, hH0, hX, hG, hK2, hK5, hK7, hg_r0, hg_r1, hz_a2, hg_bo, hg_pa, hg_ou, hP0, hI0, hLC0, hLS0, hp0, hp1, hp2, hp3, hp4⟩ := hv
  have hK := hG.1
  have hx := Bd.exec
  have hb := Bd.bytes
  have hr := Bd.returns
  have hts := atoms_spec (ws := (jw yX11_answerOrWait cX11_answerOrWait 3 none)) Bd.pre
  have htw : ∀ w ∈ jWl, w.before _ s = true := fun w h => hts w (List.mem_cons_of_mem _ h)
  have hown : s.vm.findClass RX11 = some m.cls := findClass_of_methodNamed Bd.named
  have hlocks := Bd.notSynchronized
  obtain ⟨Q, hQ⟩ : ∃ Q, Q = MQ below (va_Qv (S := Int32 × Nat × Nat × jT) (fun u => 0 ≤ u.1.toInt ∧ u.1.toInt ≤ u.2.2.1 ∧ n_pa ≤ u.2.2.1 ∧ u.2.2.1 ≤ 1048576 ∧ jPw u.2.2.1) (fun u t => jRa (dC, dI) B base G0 u.2.2.2 EX11_answerOrWait H0 ((u.2.2.1 - n_pa) / 16 + 1) (2 * (u.2.2.1 - n_pa) + 40) [(bo, 2, 1, .int u.1), (bo, 2, 0, .ref u.2.1)] t.heap ∧ u.2.2.2 u.2.1 = some (196, u.2.2.1) ∧ (jNk [0, 1, 2, 3, 4, 5, 6, 7, 8, 9, 10, 11, 12, 13, 14, 15, 16]) G0 u.2.2.2 ∧ jOl (dC, dI) G0 2 [bo, ou] H0 t.heap ∧ jIs (dC, dI) u.2.2.2 t.heap [(jFy, jYb dC dI u.2.2.2), (jFs11, jSef dC dI u.2.2.2), (jFl, jLs dC dI ca u.2.2.2 3 none)]) (jA base)) ([.ref r0, .ref r1, .int a2] : List Value).toArray s (LC - H0.size) (LS - jTot H0) (jA base) := ⟨_, rfl⟩
  rw [← hQ]
  have hl := lv_entry ([.ref r0, .ref r1, .int a2]) (n := 3) (Nat.le_of_ble_eq_true rfl)
  rw [lg_entry_eq]
  generalize (lg_sl ([.ref r0, .ref r1, .int a2]) ++ List.replicate (3 - (lg_sl ([.ref r0, .ref r1, .int a2])).length) Slot.unset).toArray = ls at hl ⊢
  have hl : lv_has ls 3 [(0, .ref r0), (1, .ref r1), (2, .int a2)] := hl
  generalize hR : (headSpec (jw yX11_answerOrWait cX11_answerOrWait 3 none) ({ frames := 8, cells := LC - H0.size, slots := LS - jTot H0, locals := 241 })).room = R
  subst hH0
  have hh : jSt (dC, dI) B base G0 G0 EX11_answerOrWait s.heap 0 0 [(r0, 13, 4, .ref bo), (bo, 2, 1, .int pc), (bo, 2, 0, .ref pa), (r0, 13, 3, .ref ou)] [] [(jFy, jYb dC dI G0), (jFs11, jSef dC dI G0), (jFl, jLs dC dI ca G0 3 none)] s.heap [] := jSt.start hX hP0 jMc.nil hI0
  clear hX hP0
  have hkm32602 : ((-32602) : Int32).toInt = (-32602) := by decide
  have hkm32600 : ((-32600) : Int32).toInt = (-32600) := by decide
  have hk0 : (0 : Int32).toInt = 0 := by decide
  have hk1 : (1 : Int32).toInt = 1 := by decide
  have hk12 : (12 : Int32).toInt = 12 := by decide
  have hly_13_8 := htw (u_lay RX11 TX11 8) (jWc_wsX110 _ (u_in_lay (by decide)))
  have hlk_65 := (htw (.fieldLink RX11 65 "ProofServer" "waiting" "Ljava/util/List;") (jWr_2 _ (List.mem_of_getElem? (i := 15) rfl)))
  have hrg_a2 := jb_rng a2
  have hbs : base ≤ s.heap.size := Nat.le_of_lt (Nat.lt_of_le_of_lt (hh.ab hg_r0).1 (hh.ab hg_r0).2)
  have hRc : R.cells = LC - s.heap.size := by rw [← hR]; rfl
  have hRs : R.slots = LS - jTot s.heap := by rw [← hR]; rfl
  have hh_1 := hh.addI (jOl.ie (dC := dC) (dI := dI) (G0 := G0) (k := 2) (rs := [bo, ou]) (H0 := s.heap) (F := [(2, 0), (2, 1)]) (C := RX0) (T := TX0) (N := 2) rfl (by decide) hh.2.2.2.2.1 (jOl.rf))
  clear hh
  refine lv_iload_n hx hb dX11_answerOrWait_0 rfl (lv_at hl 2 rfl) ?_
  refine lv_if_ne (tgt := 15) hx hb dX11_answerOrWait_1 (by decide) (fun c_2 => ?_) (fun c_2 => ?_)
  · skip
    have c_2' : a2.toInt ≠ 0 := jb_ne (rfl) ((by decide)) c_2
    obtain ⟨v_3, hv_3, hh_4⟩ := hh_1.pin (C := RX11) (T := TX11) (N := 19) hB13 rfl (by decide) hg_r0 (i := 8) (by decide) rfl
    obtain ⟨waiting_5, rfl, hg_waiting_5⟩ := hv_3
    obtain ⟨lz_6, lx_6, hl1_6, -, hl3_6, -⟩ := jLs.at (hh_4.iv 3 rfl) hg_waiting_5
    have hh_7 := hh_4.more (P1 := [(waiting_5, 1, 2, .int lz_6)]) (jP.cons hg_waiting_5 hl1_6 jP.nil)
    clear hh_4
    have hl3_6 : 0 ≤ lz_6.toInt ∧ lz_6.toInt ≤ 12 := hl3_6
    refine lv_aload_n hx hb dX11_answerOrWait_15 rfl (lv_at hl 1 rfl) ?_
    have hsz_8 := hh_7.2.2.2.2.2.1
    have htt_8 := hh_7.2.2.2.2.2.2.1
    refine W.room (fun hrc_8 hrs_8 => ?_)
    refine va_calli (A0 := jA base) (H0 := s.heap) (va_runV (As := []) (rest := []) ⟨hx, hb, hml, hown, hts⟩ (uX8_isReady l dC dI ca base B hB hAp hB3 hB10 G0 s.heap r1) (cwV 0 hts (jgV (jWr_29 _ (List.mem_of_getElem? (i := 19) rfl)) (jWr_29 _ (List.mem_of_getElem? (i := 20) rfl)) (jWr_29 _ (List.mem_of_getElem? (i := 21) rfl)) (jWr_19 _ (List.mem_of_getElem? (i := 5) rfl)) (jWr_29 _ (List.mem_of_getElem? (i := 22) rfl))) rfl rfl rfl (by decide +kernel) ⟨by rw [← hR]; exact Nat.le_of_ble_eq_true rfl, by rw [← hR]; exact Nat.le_of_ble_eq_true rfl⟩) ⟨fun a U g mk q => by obtain ⟨q0, q1, q2, qK, q10, q11, q12⟩ := q; exact ⟨q0, q1, q2, jG.calling g mk a qK, q10, q11, q12⟩, hh_7.recv (C := RX8) (T := TX8) (N := 5) hB10 rfl (by decide) hg_r1 hK, fun U hU hW => ⟨rfl, hU, hh_7.2.1, hG.step hW hU hh_7.1, hg_r1, jP.nil, trivial⟩⟩ rfl rfl hl.1 rfl (lv_room (Nat.le_of_ble_eq_true rfl)) dX11_answerOrWait_16 ⟨by rw [hRc]; show _ + 0 ≤ _; omega, by rw [hRs]; show _ + 0 ≤ _; omega⟩) hh_7.1 (fun q _ h => h) (fun q h => h) (fun r_9 u_8 t_8 H_8 locs_8 ht_8 hvm_8 hr_9 hb_8 hz_8 hk_8 hS_8 => ?_)
    rw [ht_8] at hb_8
    obtain ⟨hb_81, hb_82, hb_83, hb_84, hb_85⟩ := hb_8
    have hh_8 : jSt (dC, dI) B base G0 G0 EX11_answerOrWait s.heap 0 0 [(waiting_5, 1, 2, .int lz_6), (r0, 13, 8, .ref waiting_5), (r0, 13, 4, .ref bo), (bo, 2, 1, .int pc), (bo, 2, 0, .ref pa), (r0, 13, 3, .ref ou)] [] [([(2, 0), (2, 1)], jOl (dC, dI) G0 2 [bo, ou] s.heap), (jFy, jYb dC dI G0), (jFs11, jSef dC dI G0), (jFl, jLs dC dI ca G0 3 none)] H_8 locs_8 := ((hh_7.call hb_81 hb_82 hb_83 hb_84 hS_8 rfl (L1 := [(waiting_5, 1, 2, .int lz_6), (r0, 13, 8, .ref waiting_5), (r0, 13, 4, .ref bo), (bo, 2, 1, .int pc), (bo, 2, 0, .ref pa), (r0, 13, 3, .ref ou)]) [0, 1, 2, 3, 4, 5] rfl rfl (M1 := []) [] rfl rfl (I1 := [([(2, 0), (2, 1)], jOl (dC, dI) G0 2 [bo, ou] s.heap), (jFy, jYb dC dI G0), (jFs11, jSef dC dI G0), (jFl, jLs dC dI ca G0 3 none)]) [0, 1, 2, 3] rfl rfl).more hb_85)
    clear hh_7 ht_8 hvm_8 hz_8 hk_8 hS_8 hb_81 hb_82 hb_83 hb_84 hb_85
    obtain ⟨hr_9b, hr_9p⟩ := hr_9
    have hr_9' := jb_01 hr_9b
    refine lv_if_eq (tgt := 30) hx hb dX11_answerOrWait_19 (by decide) (fun c_10 => ?_) (fun c_10 => ?_)
    · skip
      have c_10' : r_9.toInt = 0 := jb_eq (rfl) ((by decide)) c_10
      refine lv_aload_n hx hb dX11_answerOrWait_30 rfl (lv_at hl 0 rfl) ?_
      refine j7_read hx hb hown hK (C := RX11) (T := TX11) (N := 19) rfl hly_13_8 hlk_65 (hh_8.at 1 rfl) dX11_answerOrWait_31 ?_
      have hsz_11 := hh_8.2.2.2.2.2.1
      have htt_11 := hh_8.2.2.2.2.2.2.1
      refine W.room (fun hrc_11 hrs_11 => ?_)
      refine va_callFi (A0 := jA base) (H0 := s.heap) (va_runF (hK.1 1 _ rfl).2 (As := []) (rest := []) ⟨hx, hb, hml, hown, hts⟩ (uJx4a65c_size_8abf5 l dC dI ca base B hB hAp hB1 G0 H_8 waiting_5 2 lz_6) (va_cwF 0 hts (jgF (jWr_27 _ (List.mem_of_getElem? (i := 22) rfl)) (jWr_27 _ (List.mem_of_getElem? (i := 23) rfl)) (jWr_28 _ (List.mem_of_getElem? (i := 0) rfl)) (jWr_2 _ (List.mem_of_getElem? (i := 13) rfl)) (jWr_28 _ (List.mem_of_getElem? (i := 1) rfl))) rfl rfl rfl hK7.2.2.2.2.2.1.1 ⟨by decide, by decide, by decide +kernel⟩ ⟨by rw [← hR]; exact Nat.le_of_ble_eq_true rfl, by rw [← hR]; exact Nat.le_of_ble_eq_true rfl⟩) ⟨fun a U g mk q => by obtain ⟨q0, q1, q2, qK, q10, q11, q12⟩ := q; exact ⟨q0, q1, q2, jG.calling g mk a qK, q10, q11, q12⟩, hh_8.recv (C := RJx4a65c) (T := TJx4a65c) (N := 3) hB1 rfl (by decide) hg_waiting_5 hK, fun U hU hW => ⟨rfl, hU, hh_8.2.1, hG.step hW hU hh_8.1, hg_waiting_5, (hh_8.2.2.1.sub (L1 := [(waiting_5, 1, 2, .int lz_6)]) [0] rfl), trivial⟩⟩ rfl rfl hl.1 rfl (lv_room (Nat.le_of_ble_eq_true rfl)) dX11_answerOrWait_34 ⟨by rw [hRc]; show _ + 0 ≤ _; omega, by rw [hRs]; show _ + 0 ≤ _; omega⟩) hh_8.1 (fun q _ h => h) (fun q h => h) (fun r_12 u_11 t_11 H_11 locs_11 ht_11 hvm_11 hr_12 hb_11 hz_11 hk_11 hS_11 => ?_)
      rw [ht_11] at hb_11
      obtain ⟨hb_111, hb_112, hb_113, hb_114, hb_115⟩ := hb_11
      have hh_11 : jSt (dC, dI) B base G0 G0 EX11_answerOrWait s.heap 0 0 [(waiting_5, 1, 2, .int lz_6), (r0, 13, 8, .ref waiting_5), (r0, 13, 4, .ref bo), (bo, 2, 1, .int pc), (bo, 2, 0, .ref pa), (r0, 13, 3, .ref ou)] [] [([(2, 0), (2, 1)], jOl (dC, dI) G0 2 [bo, ou] s.heap), (jFy, jYb dC dI G0), (jFs11, jSef dC dI G0), (jFl, jLs dC dI ca G0 3 none)] H_11 locs_11 := ((hh_8.call hb_111 hb_112 hb_113 hb_114 hS_11 rfl (L1 := [(waiting_5, 1, 2, .int lz_6), (r0, 13, 8, .ref waiting_5), (r0, 13, 4, .ref bo), (bo, 2, 1, .int pc), (bo, 2, 0, .ref pa), (r0, 13, 3, .ref ou)]) [0, 1, 2, 3, 4, 5] rfl rfl (M1 := []) [] rfl rfl (I1 := [([(2, 0), (2, 1)], jOl (dC, dI) G0 2 [bo, ou] s.heap), (jFy, jYb dC dI G0), (jFs11, jSef dC dI G0), (jFl, jLs dC dI ca G0 3 none)]) [0, 1, 2, 3] rfl rfl).more hb_115)
      clear hh_8 ht_11 hvm_11 hz_11 hk_11 hS_11 hb_111 hb_112 hb_113 hb_114 hb_115
      refine lv_bipush (v := 12) hx hb dX11_answerOrWait_39 (by decide) ?_
      refine lv_icmp_ge (tgt := 58) hx hb dX11_answerOrWait_41 (by decide) (fun c_13 => ?_) (fun c_13 => ?_)
      · skip
        have c_13' : r_12.toInt ≥ 12 := jb_ge (rfl) ((by decide)) c_13
        refine lv_aload_n hx hb dX11_answerOrWait_58 rfl (lv_at hl 0 rfl) ?_
        refine lv_aload_n hx hb dX11_answerOrWait_59 rfl (lv_at hl 1 rfl) ?_
        refine lv_sipush (v := (-32600)) hx hb dX11_answerOrWait_60 (by decide) ?_
        have hsz_14 := hh_11.2.2.2.2.2.1
        have htt_14 := hh_11.2.2.2.2.2.2.1
        refine W.room (fun hrc_14 hrs_14 => ?_)
        refine va_callv (A0 := jA base) (H0 := s.heap) (va_runV (As := [.ref r1, .int (-32600)]) (rest := []) ⟨hx, hb, hml, hown, hts⟩ (uX11_refuse l dC dI ca base B hB hAp hB2 hB4 hB10 hB13 hB196 G0 H_11 r0 r1 (-32600) bo pc pa n_pa ou LC LS) (cwV 2 hts (jgV (jWr_26 _ (List.mem_of_getElem? (i := 3) rfl)) (jWr_26 _ (List.mem_of_getElem? (i := 4) rfl)) (jWr_26 _ (List.mem_of_getElem? (i := 5) rfl)) (jWr_1 _ (List.mem_of_getElem? (i := 2) rfl)) (jWr_26 _ (List.mem_of_getElem? (i := 6) rfl))) rfl rfl rfl (by decide +kernel) ⟨by rw [← hR]; exact Nat.le_of_ble_eq_true rfl, by rw [← hR]; exact Nat.le_of_ble_eq_true rfl⟩) ⟨fun a U g mk q => by obtain ⟨q0, q1, q2, qK, q10, q11, q12, q13, q14, q15, q16, q17⟩ := q; exact ⟨q0, q1, q2, jG.calling g mk a qK, q10, q11, q12, q13, q14, q15, q16, q17⟩, hh_11.recv (C := RX11) (T := TX11) (N := 19) hB13 rfl (by decide) hg_r0 hK, fun U hU hW => ⟨rfl, hU, hh_11.2.1, hG.step hW hU hh_11.1, hg_r1, hg_r0, hg_bo, hg_pa, hg_ou, (hh_11.2.2.1.sub (L1 := [(r0, 13, 4, .ref bo), (bo, 2, 1, .int pc), (bo, 2, 0, .ref pa), (r0, 13, 3, .ref ou)]) [2, 3, 4, 5] rfl), (hh_11.2.2.2.2.2.2.2.2.sub (L1 := [(jFy, jYb dC dI G0)]) [1] rfl), (by omega), (by omega), ⟨(by first | omega | rfl | assumption | fail), (by first | omega | rfl | assumption | fail), (by first | omega | rfl | assumption | fail), (by first | omega | rfl | assumption | fail), (by first | assumption | fail | omega)⟩⟩⟩ rfl rfl hl.1 rfl (lv_room (Nat.le_of_ble_eq_true rfl)) dX11_answerOrWait_63 ⟨by rw [hRc]; omega, by rw [hRs]; omega⟩) hh_11.1 (fun q _ h => h) (fun q h => h) (fun u_14 t_14 H_14 locs_14 ht_14 hvm_14 hr_15 hb_14 hz_14 hk_14 hS_14 => ?_)
        obtain ⟨qc_14, qa_14, m_qa_14, G_14⟩ := u_14
        rw [ht_14] at hb_14
        simp only at hb_14
        obtain ⟨⟨hb_141, hb_142, hb_143, hb_144, hb_145, hb_146⟩, hgq_14_0, hN_14, hbO_14, hbE_14⟩ := hb_14
        have hh_14 : jSt (dC, dI) B base G0 G_14 EX11_answerOrWait s.heap (0 + ((m_qa_14 - n_pa) / 16)) (0 + (2 * (m_qa_14 - n_pa))) [(bo, 2, 1, .int qc_14), (bo, 2, 0, .ref qa_14), (waiting_5, 1, 2, .int lz_6), (r0, 13, 8, .ref waiting_5), (r0, 13, 4, .ref bo), (r0, 13, 3, .ref ou)] [] [(jFs11, jSef dC dI G0), (jFl, jLs dC dI ca G0 3 none)] H_14 locs_14 := (hh_11.callG hb_141 hb_142 hb_143 hb_144 hb_145 hS_14 rfl (L1 := [(waiting_5, 1, 2, .int lz_6), (r0, 13, 8, .ref waiting_5), (r0, 13, 4, .ref bo), (r0, 13, 3, .ref ou)]) [0, 1, 2, 5] rfl rfl (M1 := []) [] rfl rfl (I1 := [(jFs11, jSef dC dI G0), (jFl, jLs dC dI ca G0 3 none)]) [2, 3] rfl rfl).more hb_146
        have hNn_14 : (jNk [0, 1, 2, 3, 4, 5, 6, 7, 8, 9, 10, 11, 12, 13, 14, 15, 16]) G0 G_14 := (jNk.rf).tr hN_14
        have hg_16 := hb_142 _ _ hg_r0
        have hg_17 := hb_142 _ _ hg_r1
        have hg_18 := hb_142 _ _ hg_waiting_5
        have hg_19 := hb_142 _ _ hg_bo
        have hg_20 := hb_142 _ _ hg_ou
        have hd_21 := jSef.grow (hh_14.iv 0 rfl) hb_142 hN_14 (by decide)
        have hh_22 := hh_14.sub (L1 := [(bo, 2, 1, .int qc_14), (bo, 2, 0, .ref qa_14), (waiting_5, 1, 2, .int lz_6), (r0, 13, 8, .ref waiting_5), (r0, 13, 4, .ref bo), (r0, 13, 3, .ref ou)]) [0, 1, 2, 3, 4, 5] rfl (M1 := []) [] rfl (I1 := [(jFl, jLs dC dI ca G0 3 none)]) [1] rfl
        clear hh_14
        have hh_23 := hh_22.addI (jSef.ie hd_21)
        clear hh_22
        have hd_24 := jLs.grow (hh_23.iv 1 rfl) hb_142 hN_14 (by decide)
        have hh_25 := hh_23.sub (L1 := [(bo, 2, 1, .int qc_14), (bo, 2, 0, .ref qa_14), (waiting_5, 1, 2, .int lz_6), (r0, 13, 8, .ref waiting_5), (r0, 13, 4, .ref bo), (r0, 13, 3, .ref ou)]) [0, 1, 2, 3, 4, 5] rfl (M1 := []) [] rfl (I1 := [(jFs11, jSef dC dI G_14)]) [0] rfl
        clear hh_23
        have hh_26 := hh_25.addI (jLs.ie hd_24)
        clear hh_25
        have hh_27 := hh_26.addIs hbE_14
        have hd_28 := jOl.trL (hh_11.iv 0 rfl) hh_11.2.2.2.2.1 hbO_14 (by simp)
        have hh_29 := hh_27.addI (jOl.ie (dC := dC) (dI := dI) (G0 := G0) (k := 2) (rs := [bo, ou]) (H0 := s.heap) (F := [(2, 0), (2, 1)]) (C := RX0) (T := TX0) (N := 2) rfl (by decide) hh_27.2.2.2.2.1 (hd_28))
        clear hh_27
        try simp only at hr_15
        obtain ⟨hr_15_0, hr_15_1, hr_15_2, hr_15_3, hr_15_4⟩ := hr_15
        have hh_30 := hh_29.wk (zc1 := (m_qa_14 - n_pa) / 16 + 1) (zs1 := 2 * (m_qa_14 - n_pa) + 40) (by omega) (by omega)
        clear hh_29
        try clear hsz_14 htt_14 hrc_14 hrs_14
        try clear hb_144 hb_145
        have hsz_31 := hh_30.2.2.2.2.2.1
        have htt_31 := hh_30.2.2.2.2.2.2.1
        refine W.room (fun hrc_31 hrs_31 => ?_)
        refine W.widen (k := LC - s.heap.size) (n := LS - jTot s.heap) (by omega) (by omega) ?_
        rw [hQ]
        exact W.vret hx hb hr (fun t ht hW => ⟨⟨(qc_14, qa_14, m_qa_14, G_14), rfl, by (try dsimp only); exact ⟨(by first | omega | rfl | assumption | fail), (by first | omega | rfl | assumption | fail), (by first | omega | rfl | assumption | fail), (by first | omega | rfl | assumption | fail), (by first | assumption | fail | omega)⟩, ⟨hh_30.ra (by first | omega | (simp only; omega)) (by first | omega | (simp only; omega)) (M1 := [(bo, 2, 1, .int qc_14), (bo, 2, 0, .ref qa_14)]) [0, 1] rfl ht, hgq_14_0, hNn_14, by rw [ht]; exact hh_30.iv 0 rfl, by rw [ht]; exact hh_30.2.2.2.2.2.2.2.2.sub (L1 := [(jFy, jYb dC dI G_14), (jFs11, jSef dC dI G_14), (jFl, jLs dC dI ca G_14 3 none)]) [1, 3, 2] rfl⟩⟩, by rw [ht]; try exact hh_30.1.1, fun q h9 hq => by rw [ht]; try exact hh_30.1.2.1 q h9 hq⟩) hh_30.1.2.2 dX11_answerOrWait_66
      · skip
        have c_13' : r_12.toInt < 12 := jb_ge_n (rfl) ((by decide)) c_13
        refine lv_aload_n hx hb dX11_answerOrWait_44 rfl (lv_at hl 0 rfl) ?_
        refine j7_read hx hb hown hK (C := RX11) (T := TX11) (N := 19) rfl hly_13_8 hlk_65 (hh_11.at 1 rfl) dX11_answerOrWait_45 ?_
        refine lv_aload_n hx hb dX11_answerOrWait_48 rfl (lv_at hl 1 rfl) ?_
        have hsz_32 := hh_11.2.2.2.2.2.1
        have htt_32 := hh_11.2.2.2.2.2.2.1
        refine W.room (fun hrc_32 hrs_32 => ?_)
        refine va_callFi (A0 := jA base) (H0 := s.heap) (va_runF (hK.1 1 _ rfl).2 (As := [.ref r1]) (rest := []) ⟨hx, hb, hml, hown, hts⟩ (uJx4a65c_add_9ea2dL2 l dC dI ca base B hB hAp hB1 hB10 hB222 G0 H_11 waiting_5 r1 lz_6 LC LS) (va_cwF 1 hts (jgF (jWr_33 _ (List.mem_of_getElem? (i := 7) rfl)) (jWr_33 _ (List.mem_of_getElem? (i := 8) rfl)) (jWr_33 _ (List.mem_of_getElem? (i := 9) rfl)) (jWr_2 _ (List.mem_of_getElem? (i := 13) rfl)) (jWr_33 _ (List.mem_of_getElem? (i := 10) rfl))) rfl rfl rfl hK7.2.2.2.2.2.1.2.2.1 ⟨by decide, by decide, by decide +kernel⟩ ⟨by rw [← hR]; exact Nat.le_of_ble_eq_true rfl, by rw [← hR]; exact Nat.le_of_ble_eq_true rfl⟩) ⟨fun a U g mk q => by obtain ⟨q0, q1, q2, qK, q10, q11, q12, q13, q14, q15⟩ := q; exact ⟨q0, q1, q2, jG.calling g mk a qK, (jK7.calling g mk a q10), q11, q12, q13, q14, q15⟩, hh_11.recv (C := RJx4a65c) (T := TJx4a65c) (N := 3) hB1 rfl (by decide) hg_waiting_5 hK, fun U hU hW => ⟨rfl, hU, hh_11.2.1, hG.step hW hU hh_11.1, (hK7.step hW hU hh_11.1), hg_waiting_5, hg_r1, (hh_11.2.2.1.sub (L1 := [(waiting_5, 1, 2, .int lz_6)]) [0] rfl), (hh_11.2.2.2.2.2.2.2.2.sub (L1 := [(jFl, jLs dC dI ca G0 3 none)]) [3] rfl), ⟨(by first | omega | rfl | assumption | fail), (by first | omega | rfl | assumption | fail)⟩⟩⟩ rfl rfl hl.1 rfl (lv_room (Nat.le_of_ble_eq_true rfl)) dX11_answerOrWait_49 ⟨by rw [hRc]; omega, by rw [hRs]; omega⟩) hh_11.1 (fun q _ h => h) (fun q h => h) (fun r_33 u_32 t_32 H_32 locs_32 ht_32 hvm_32 hr_33 hb_32 hz_32 hk_32 hS_32 => ?_)
        obtain ⟨qz_32, G_32⟩ := u_32
        rw [ht_32] at hb_32
        simp only at hb_32
        obtain ⟨⟨hb_321, hb_322, hb_323, hb_324, hb_325, hb_326⟩, hN_32, hbE_32⟩ := hb_32
        have hh_32 : jSt (dC, dI) B base G0 G_32 EX11_answerOrWait s.heap (0 + (1)) (0 + (40)) [(waiting_5, 1, 2, .int qz_32), (r0, 13, 8, .ref waiting_5), (r0, 13, 4, .ref bo), (bo, 2, 1, .int pc), (bo, 2, 0, .ref pa), (r0, 13, 3, .ref ou)] [] [([(2, 0), (2, 1)], jOl (dC, dI) G0 2 [bo, ou] s.heap), (jFy, jYb dC dI G0), (jFs11, jSef dC dI G0)] H_32 locs_32 := (hh_11.callG hb_321 hb_322 hb_323 hb_324 hb_325 hS_32 rfl (L1 := [(r0, 13, 8, .ref waiting_5), (r0, 13, 4, .ref bo), (bo, 2, 1, .int pc), (bo, 2, 0, .ref pa), (r0, 13, 3, .ref ou)]) [1, 2, 3, 4, 5] rfl rfl (M1 := []) [] rfl rfl (I1 := [([(2, 0), (2, 1)], jOl (dC, dI) G0 2 [bo, ou] s.heap), (jFy, jYb dC dI G0), (jFs11, jSef dC dI G0)]) [0, 1, 2] rfl rfl).more hb_326
        have hNn_32 : (jNk [0, 1, 2, 3, 4, 5, 6, 7, 8, 9, 10, 11, 12, 13, 14, 15, 16]) G0 G_32 := (jNk.rf).tr hN_32
        have hg_34 := hb_322 _ _ hg_r0
        have hg_35 := hb_322 _ _ hg_r1
        have hg_36 := hb_322 _ _ hg_waiting_5
        have hg_37 := hb_322 _ _ hg_bo
        have hg_38 := hb_322 _ _ hg_pa
        have hg_39 := hb_322 _ _ hg_ou
        have hd_40 := jYb.grow (hh_32.iv 1 rfl) hb_322 hN_32 (by decide)
        have hh_41 := hh_32.sub (L1 := [(waiting_5, 1, 2, .int qz_32), (r0, 13, 8, .ref waiting_5), (r0, 13, 4, .ref bo), (bo, 2, 1, .int pc), (bo, 2, 0, .ref pa), (r0, 13, 3, .ref ou)]) [0, 1, 2, 3, 4, 5] rfl (M1 := []) [] rfl (I1 := [([(2, 0), (2, 1)], jOl (dC, dI) G0 2 [bo, ou] s.heap), (jFs11, jSef dC dI G0)]) [0, 2] rfl
        clear hh_32
        have hh_42 := hh_41.addI (jYb.ie hd_40)
        clear hh_41
        have hd_43 := jSef.grow (hh_42.iv 2 rfl) hb_322 hN_32 (by decide)
        have hh_44 := hh_42.sub (L1 := [(waiting_5, 1, 2, .int qz_32), (r0, 13, 8, .ref waiting_5), (r0, 13, 4, .ref bo), (bo, 2, 1, .int pc), (bo, 2, 0, .ref pa), (r0, 13, 3, .ref ou)]) [0, 1, 2, 3, 4, 5] rfl (M1 := []) [] rfl (I1 := [(jFy, jYb dC dI G_32), ([(2, 0), (2, 1)], jOl (dC, dI) G0 2 [bo, ou] s.heap)]) [0, 1] rfl
        clear hh_42
        have hh_45 := hh_44.addI (jSef.ie hd_43)
        clear hh_44
        have hh_46 := hh_45.addIs hbE_32
        obtain ⟨hr_33b, hr_33p⟩ := hr_33
        try simp only at hr_33p
        have hh_47 := hh_46.wk (zc1 := (n_pa - n_pa) / 16 + 1) (zs1 := 2 * (n_pa - n_pa) + 40) (by omega) (by omega)
        clear hh_46
        try clear hsz_32 htt_32 hrc_32 hrs_32
        try clear hb_324 hb_325
        have hr_33' := jb_01 hr_33b
        refine lv_pop hx hb dX11_answerOrWait_54 rfl ?_
        refine lv_goto (tgt := 66) hx hb dX11_answerOrWait_55 (by decide) ?_
        have hsz_48 := hh_47.2.2.2.2.2.1
        have htt_48 := hh_47.2.2.2.2.2.2.1
        refine W.room (fun hrc_48 hrs_48 => ?_)
        refine W.widen (k := LC - s.heap.size) (n := LS - jTot s.heap) (by omega) (by omega) ?_
        rw [hQ]
        exact W.vret hx hb hr (fun t ht hW => ⟨⟨(pc, pa, n_pa, G_32), rfl, by (try dsimp only); exact ⟨(by first | omega | rfl | assumption | fail), (by first | omega | rfl | assumption | fail), (by first | omega | rfl | assumption | fail), (by first | omega | rfl | assumption | fail), (by first | assumption | fail | omega)⟩, ⟨hh_47.ra (by first | omega | (simp only; omega)) (by first | omega | (simp only; omega)) (M1 := [(bo, 2, 1, .int pc), (bo, 2, 0, .ref pa)]) [3, 4] rfl ht, hg_38, hNn_32, by rw [ht]; exact hh_47.iv 3 rfl, by rw [ht]; exact hh_47.2.2.2.2.2.2.2.2.sub (L1 := [(jFy, jYb dC dI G_32), (jFs11, jSef dC dI G_32), (jFl, jLs dC dI ca G_32 3 none)]) [2, 1, 0] rfl⟩⟩, by rw [ht]; try exact hh_47.1.1, fun q h9 hq => by rw [ht]; try exact hh_47.1.2.1 q h9 hq⟩) hh_47.1.2.2 dX11_answerOrWait_66
    · skip
      have c_10' : r_9.toInt ≠ 0 := jb_eq_n (rfl) ((by decide)) c_10
      refine lv_aload_n hx hb dX11_answerOrWait_22 rfl (lv_at hl 0 rfl) ?_
      refine lv_aload_n hx hb dX11_answerOrWait_23 rfl (lv_at hl 1 rfl) ?_
      have hsz_49 := hh_8.2.2.2.2.2.1
      have htt_49 := hh_8.2.2.2.2.2.2.1
      refine W.room (fun hrc_49 hrs_49 => ?_)
      refine va_callv (A0 := jA base) (H0 := s.heap) (va_runV (As := [.ref r1]) (rest := []) ⟨hx, hb, hml, hown, hts⟩ (uX11_reply l dC dI ca base B hB hAp hB2 hB3 hB4 hB5 hB7 hB8 hB9 hB10 hB11 hB13 hB101 hB102 hB132 hB196 hB210 hB214 hB280 hB286 hB287 hB288 hB313 G0 H_8 r0 r1 bo pc pa n_pa ou LC LS) (cwV 1 hts (jgV (jWr_30 _ (List.mem_of_getElem? (i := 2) rfl)) (jWr_30 _ (List.mem_of_getElem? (i := 3) rfl)) (jWr_30 _ (List.mem_of_getElem? (i := 4) rfl)) (jWr_1 _ (List.mem_of_getElem? (i := 2) rfl)) (jWr_30 _ (List.mem_of_getElem? (i := 5) rfl))) rfl rfl rfl (by decide +kernel) ⟨by rw [← hR]; exact Nat.le_of_ble_eq_true rfl, by rw [← hR]; exact Nat.le_of_ble_eq_true rfl⟩) ⟨fun a U g mk q => by obtain ⟨q0, q1, q2, qK, q10, q11, q12, q13, q14, q15, q16, q17, q18, q19⟩ := q; exact ⟨q0, q1, q2, jG.calling g mk a qK, (va_K.moved (Vm.Alike.refl U.vm) q10), (jK5.moved (Vm.Alike.refl U.vm) q11), q12, q13, q14, q15, q16, q17, q18, q19⟩, hh_8.recv (C := RX11) (T := TX11) (N := 19) hB13 rfl (by decide) hg_r0 hK, fun U hU hW => ⟨rfl, hU, hh_8.2.1, hG.step hW hU hh_8.1, va_K.moved hW.alike hK2, jK5.moved hW.alike hK5, hg_r0, hg_r1, hg_bo, hg_pa, hg_ou, (hh_8.2.2.1.sub (L1 := [(r0, 13, 4, .ref bo), (bo, 2, 1, .int pc), (bo, 2, 0, .ref pa), (r0, 13, 3, .ref ou)]) [2, 3, 4, 5] rfl), (hh_8.2.2.2.2.2.2.2.2.sub (L1 := [(jFy, jYb dC dI G0), (jFs11, jSef dC dI G0)]) [1, 2] rfl), (by omega), (by omega), ⟨(by first | omega | rfl | assumption | fail), (by first | omega | rfl | assumption | fail), (by first | omega | rfl | assumption | fail), (by first | omega | rfl | assumption | fail), (by first | assumption | fail | omega)⟩⟩⟩ rfl rfl hl.1 rfl (lv_room (Nat.le_of_ble_eq_true rfl)) dX11_answerOrWait_24 ⟨by rw [hRc]; omega, by rw [hRs]; omega⟩) hh_8.1 (fun q _ h => h) (fun q h => h) (fun u_49 t_49 H_49 locs_49 ht_49 hvm_49 hr_50 hb_49 hz_49 hk_49 hS_49 => ?_)
      obtain ⟨qc_49, qa_49, m_qa_49, G_49⟩ := u_49
      rw [ht_49] at hb_49
      simp only at hb_49
      obtain ⟨⟨hb_491, hb_492, hb_493, hb_494, hb_495, hb_496⟩, hgq_49_0, hN_49, hbO_49, hbE_49⟩ := hb_49
      have hh_49 : jSt (dC, dI) B base G0 G_49 EX11_answerOrWait s.heap (0 + ((m_qa_49 - n_pa) / 16)) (0 + (2 * (m_qa_49 - n_pa))) [(bo, 2, 1, .int qc_49), (bo, 2, 0, .ref qa_49), (waiting_5, 1, 2, .int lz_6), (r0, 13, 8, .ref waiting_5), (r0, 13, 4, .ref bo), (r0, 13, 3, .ref ou)] [] [(jFl, jLs dC dI ca G0 3 none)] H_49 locs_49 := (hh_8.callG hb_491 hb_492 hb_493 hb_494 hb_495 hS_49 rfl (L1 := [(waiting_5, 1, 2, .int lz_6), (r0, 13, 8, .ref waiting_5), (r0, 13, 4, .ref bo), (r0, 13, 3, .ref ou)]) [0, 1, 2, 5] rfl rfl (M1 := []) [] rfl rfl (I1 := [(jFl, jLs dC dI ca G0 3 none)]) [3] rfl rfl).more hb_496
      have hNn_49 : (jNk [0, 1, 2, 3, 4, 5, 6, 7, 8, 9, 10, 11, 12, 13, 14, 15, 16]) G0 G_49 := (jNk.rf).tr hN_49
      have hg_51 := hb_492 _ _ hg_r0
      have hg_52 := hb_492 _ _ hg_r1
      have hg_53 := hb_492 _ _ hg_waiting_5
      have hg_54 := hb_492 _ _ hg_bo
      have hg_55 := hb_492 _ _ hg_ou
      have hd_56 := jLs.grow (hh_49.iv 0 rfl) hb_492 hN_49 (by decide)
      have hh_57 := hh_49.sub (L1 := [(bo, 2, 1, .int qc_49), (bo, 2, 0, .ref qa_49), (waiting_5, 1, 2, .int lz_6), (r0, 13, 8, .ref waiting_5), (r0, 13, 4, .ref bo), (r0, 13, 3, .ref ou)]) [0, 1, 2, 3, 4, 5] rfl (M1 := []) [] rfl (I1 := []) [] rfl
      clear hh_49
      have hh_58 := hh_57.addI (jLs.ie hd_56)
      clear hh_57
      have hh_59 := hh_58.addIs hbE_49
      have hd_60 := jOl.trL (hh_8.iv 0 rfl) hh_8.2.2.2.2.1 hbO_49 (by simp)
      have hh_61 := hh_59.addI (jOl.ie (dC := dC) (dI := dI) (G0 := G0) (k := 2) (rs := [bo, ou]) (H0 := s.heap) (F := [(2, 0), (2, 1)]) (C := RX0) (T := TX0) (N := 2) rfl (by decide) hh_59.2.2.2.2.1 (hd_60))
      clear hh_59
      try simp only at hr_50
      obtain ⟨hr_50_0, hr_50_1, hr_50_2, hr_50_3, hr_50_4⟩ := hr_50
      have hh_62 := hh_61.wk (zc1 := (m_qa_49 - n_pa) / 16 + 1) (zs1 := 2 * (m_qa_49 - n_pa) + 40) (by omega) (by omega)
      clear hh_61
      try clear hsz_49 htt_49 hrc_49 hrs_49
      try clear hb_494 hb_495
      refine lv_goto (tgt := 66) hx hb dX11_answerOrWait_27 (by decide) ?_
      have hsz_63 := hh_62.2.2.2.2.2.1
      have htt_63 := hh_62.2.2.2.2.2.2.1
      refine W.room (fun hrc_63 hrs_63 => ?_)
      refine W.widen (k := LC - s.heap.size) (n := LS - jTot s.heap) (by omega) (by omega) ?_
      rw [hQ]
      exact W.vret hx hb hr (fun t ht hW => ⟨⟨(qc_49, qa_49, m_qa_49, G_49), rfl, by (try dsimp only); exact ⟨(by first | omega | rfl | assumption | fail), (by first | omega | rfl | assumption | fail), (by first | omega | rfl | assumption | fail), (by first | omega | rfl | assumption | fail), (by first | assumption | fail | omega)⟩, ⟨hh_62.ra (by first | omega | (simp only; omega)) (by first | omega | (simp only; omega)) (M1 := [(bo, 2, 1, .int qc_49), (bo, 2, 0, .ref qa_49)]) [0, 1] rfl ht, hgq_49_0, hNn_49, by rw [ht]; exact hh_62.iv 0 rfl, by rw [ht]; exact hh_62.2.2.2.2.2.2.2.2.sub (L1 := [(jFy, jYb dC dI G_49), (jFs11, jSef dC dI G_49), (jFl, jLs dC dI ca G_49 3 none)]) [1, 2, 3] rfl⟩⟩, by rw [ht]; try exact hh_62.1.1, fun q h9 hq => by rw [ht]; try exact hh_62.1.2.1 q h9 hq⟩) hh_62.1.2.2 dX11_answerOrWait_66
  · skip
    have c_2' : a2.toInt = 0 := jb_ne_n (rfl) ((by decide)) c_2
    refine lv_aload_n hx hb dX11_answerOrWait_4 rfl (lv_at hl 0 rfl) ?_
    refine lv_aload_n hx hb dX11_answerOrWait_5 rfl (lv_at hl 1 rfl) ?_
    refine lv_sipush (v := (-32602)) hx hb dX11_answerOrWait_6 (by decide) ?_
    have hsz_64 := hh_1.2.2.2.2.2.1
    have htt_64 := hh_1.2.2.2.2.2.2.1
    refine W.room (fun hrc_64 hrs_64 => ?_)
    refine va_callv (A0 := jA base) (H0 := s.heap) (va_runV (As := [.ref r1, .int (-32602)]) (rest := []) ⟨hx, hb, hml, hown, hts⟩ (uX11_refuse l dC dI ca base B hB hAp hB2 hB4 hB10 hB13 hB196 G0 s.heap r0 r1 (-32602) bo pc pa n_pa ou LC LS) (cwV 2 hts (jgV (jWr_26 _ (List.mem_of_getElem? (i := 3) rfl)) (jWr_26 _ (List.mem_of_getElem? (i := 4) rfl)) (jWr_26 _ (List.mem_of_getElem? (i := 5) rfl)) (jWr_1 _ (List.mem_of_getElem? (i := 2) rfl)) (jWr_26 _ (List.mem_of_getElem? (i := 6) rfl))) rfl rfl rfl (by decide +kernel) ⟨by rw [← hR]; exact Nat.le_of_ble_eq_true rfl, by rw [← hR]; exact Nat.le_of_ble_eq_true rfl⟩) ⟨fun a U g mk q => by obtain ⟨q0, q1, q2, qK, q10, q11, q12, q13, q14, q15, q16, q17⟩ := q; exact ⟨q0, q1, q2, jG.calling g mk a qK, q10, q11, q12, q13, q14, q15, q16, q17⟩, hh_1.recv (C := RX11) (T := TX11) (N := 19) hB13 rfl (by decide) hg_r0 hK, fun U hU hW => ⟨rfl, hU, hh_1.2.1, hG.step hW hU hh_1.1, hg_r1, hg_r0, hg_bo, hg_pa, hg_ou, (hh_1.2.2.1.sub (L1 := [(r0, 13, 4, .ref bo), (bo, 2, 1, .int pc), (bo, 2, 0, .ref pa), (r0, 13, 3, .ref ou)]) [0, 1, 2, 3] rfl), (hh_1.2.2.2.2.2.2.2.2.sub (L1 := [(jFy, jYb dC dI G0)]) [1] rfl), (by omega), (by omega), ⟨(by first | omega | rfl | assumption | fail), (by first | omega | rfl | assumption | fail), (by first | omega | rfl | assumption | fail), (by first | omega | rfl | assumption | fail), (by first | assumption | fail | omega)⟩⟩⟩ rfl rfl hl.1 rfl (lv_room (Nat.le_of_ble_eq_true rfl)) dX11_answerOrWait_9 ⟨by rw [hRc]; omega, by rw [hRs]; omega⟩) hh_1.1 (fun q _ h => h) (fun q h => h) (fun u_64 t_64 H_64 locs_64 ht_64 hvm_64 hr_65 hb_64 hz_64 hk_64 hS_64 => ?_)
    obtain ⟨qc_64, qa_64, m_qa_64, G_64⟩ := u_64
    rw [ht_64] at hb_64
    simp only at hb_64
    obtain ⟨⟨hb_641, hb_642, hb_643, hb_644, hb_645, hb_646⟩, hgq_64_0, hN_64, hbO_64, hbE_64⟩ := hb_64
    have hh_64 : jSt (dC, dI) B base G0 G_64 EX11_answerOrWait s.heap (0 + ((m_qa_64 - n_pa) / 16)) (0 + (2 * (m_qa_64 - n_pa))) [(bo, 2, 1, .int qc_64), (bo, 2, 0, .ref qa_64), (r0, 13, 4, .ref bo), (r0, 13, 3, .ref ou)] [] [(jFs11, jSef dC dI G0), (jFl, jLs dC dI ca G0 3 none)] H_64 locs_64 := (hh_1.callG hb_641 hb_642 hb_643 hb_644 hb_645 hS_64 rfl (L1 := [(r0, 13, 4, .ref bo), (r0, 13, 3, .ref ou)]) [0, 3] rfl rfl (M1 := []) [] rfl rfl (I1 := [(jFs11, jSef dC dI G0), (jFl, jLs dC dI ca G0 3 none)]) [2, 3] rfl rfl).more hb_646
    have hNn_64 : (jNk [0, 1, 2, 3, 4, 5, 6, 7, 8, 9, 10, 11, 12, 13, 14, 15, 16]) G0 G_64 := (jNk.rf).tr hN_64
    have hg_66 := hb_642 _ _ hg_r0
    have hg_67 := hb_642 _ _ hg_r1
    have hg_68 := hb_642 _ _ hg_bo
    have hg_69 := hb_642 _ _ hg_ou
    have hd_70 := jSef.grow (hh_64.iv 0 rfl) hb_642 hN_64 (by decide)
    have hh_71 := hh_64.sub (L1 := [(bo, 2, 1, .int qc_64), (bo, 2, 0, .ref qa_64), (r0, 13, 4, .ref bo), (r0, 13, 3, .ref ou)]) [0, 1, 2, 3] rfl (M1 := []) [] rfl (I1 := [(jFl, jLs dC dI ca G0 3 none)]) [1] rfl
    clear hh_64
    have hh_72 := hh_71.addI (jSef.ie hd_70)
    clear hh_71
    have hd_73 := jLs.grow (hh_72.iv 1 rfl) hb_642 hN_64 (by decide)
    have hh_74 := hh_72.sub (L1 := [(bo, 2, 1, .int qc_64), (bo, 2, 0, .ref qa_64), (r0, 13, 4, .ref bo), (r0, 13, 3, .ref ou)]) [0, 1, 2, 3] rfl (M1 := []) [] rfl (I1 := [(jFs11, jSef dC dI G_64)]) [0] rfl
    clear hh_72
    have hh_75 := hh_74.addI (jLs.ie hd_73)
    clear hh_74
    have hh_76 := hh_75.addIs hbE_64
    have hd_77 := jOl.trL (hh_1.iv 0 rfl) hh_1.2.2.2.2.1 hbO_64 (by simp)
    have hh_78 := hh_76.addI (jOl.ie (dC := dC) (dI := dI) (G0 := G0) (k := 2) (rs := [bo, ou]) (H0 := s.heap) (F := [(2, 0), (2, 1)]) (C := RX0) (T := TX0) (N := 2) rfl (by decide) hh_76.2.2.2.2.1 (hd_77))
    clear hh_76
    try simp only at hr_65
    obtain ⟨hr_65_0, hr_65_1, hr_65_2, hr_65_3, hr_65_4⟩ := hr_65
    have hh_79 := hh_78.wk (zc1 := (m_qa_64 - n_pa) / 16 + 1) (zs1 := 2 * (m_qa_64 - n_pa) + 40) (by omega) (by omega)
    clear hh_78
    try clear hsz_64 htt_64 hrc_64 hrs_64
    try clear hb_644 hb_645
    refine lv_goto (tgt := 66) hx hb dX11_answerOrWait_12 (by decide) ?_
    have hsz_80 := hh_79.2.2.2.2.2.1
    have htt_80 := hh_79.2.2.2.2.2.2.1
    refine W.room (fun hrc_80 hrs_80 => ?_)
    refine W.widen (k := LC - s.heap.size) (n := LS - jTot s.heap) (by omega) (by omega) ?_
    rw [hQ]
    exact W.vret hx hb hr (fun t ht hW => ⟨⟨(qc_64, qa_64, m_qa_64, G_64), rfl, by (try dsimp only); exact ⟨(by first | omega | rfl | assumption | fail), (by first | omega | rfl | assumption | fail), (by first | omega | rfl | assumption | fail), (by first | omega | rfl | assumption | fail), (by first | assumption | fail | omega)⟩, ⟨hh_79.ra (by first | omega | (simp only; omega)) (by first | omega | (simp only; omega)) (M1 := [(bo, 2, 1, .int qc_64), (bo, 2, 0, .ref qa_64)]) [0, 1] rfl ht, hgq_64_0, hNn_64, by rw [ht]; exact hh_79.iv 0 rfl, by rw [ht]; exact hh_79.2.2.2.2.2.2.2.2.sub (L1 := [(jFy, jYb dC dI G_64), (jFs11, jSef dC dI G_64), (jFl, jLs dC dI ca G_64 3 none)]) [1, 3, 2] rfl⟩⟩, by rw [ht]; try exact hh_79.1.1, fun q h9 hq => by rw [ht]; try exact hh_79.1.2.1 q h9 hq⟩) hh_79.1.2.2 dX11_answerOrWait_66
end
section
def EX11_placeTold : List (Nat × Nat) := []
set_option maxHeartbeats 4000000 in
set_option maxRecDepth 20000 in
theorem uX11_placeTold (l : Launch) (dC : Nat → ClassId) (dI : Nat → Nat → Nat) (ca : Nat → ClassId) (base : Nat) (B : jF) (hB : jBok B) (hAp : jAp (dC, dI)) (hB3 : ∀ n G a H, B 3 n G a H ↔ jOb (dC, dI) 3 17 (F3 n G) a H) (hB6 : ∀ n G a H, B 6 n G a H ↔ jOb (dC, dI) 6 12 (F6 n G) a H) (hB13 : ∀ n G a H, B 13 n G a H ↔ jOb (dC, dI) 13 19 (F13 n G) a H) (hB101 : ∀ n G a H, B 101 n G a H ↔ jAr (dC, dI) (ca 1) (fun j z => True) n a H) (hB140 : ∀ n G a H, B 140 n G a H ↔ jAr (dC, dI) (ca 1) (fun j z => True) n a H) (hB141 : ∀ n G a H, B 141 n G a H ↔ jAr (dC, dI) (ca 1) (fun j z => True) n a H) (hB142 : ∀ n G a H, B 142 n G a H ↔ jAr (dC, dI) (ca 1) (fun j z => True) n a H) (hB143 : ∀ n G a H, B 143 n G a H ↔ jAr (dC, dI) (ca 1) (fun j z => True) n a H) (hB144 : ∀ n G a H, B 144 n G a H ↔ jAr (dC, dI) (ca 1) (fun j z => 0 ≤ z.toInt ∧ z.toInt ≤ 3000) n a H) (hB145 : ∀ n G a H, B 145 n G a H ↔ jAr (dC, dI) (ca 1) (fun j z => True) n a H) (hB146 : ∀ n G a H, B 146 n G a H ↔ jAr (dC, dI) (ca 1) (fun j z => True) n a H) (G0 : jT) (H0 : Heap) (r0 : Nat) (a1 : Int32) (r2 : Nat) (n2 : Nat) : Met l yX11_placeTold (jw yX11_placeTold cX11_placeTold 5 (some .int)) ({ frames := 6, cells := 0, slots := 0, locals := 190 }) (va_Pc [.ref r0, .int a1, .ref r2] (fun U => U.heap = H0 ∧ jX B base G0 [] H0 ∧ jG dC dI ca base U ∧ G0 r0 = some (13, 0) ∧ G0 r2 = some (3, n2) ∧ jP (dC, dI) G0 H0 [] ∧ True)) (va_Qi (S := Unit) (fun r u => (True)) (fun u t => jRt (dC, dI) B base G0 EX11_placeTold H0 [] t.heap) (jA base)) 0 0 (jA base) := by
  refine Met.ofW (cc := cX11_placeTold) (maxL := 5) (ret := (some .int)) (by decide) rfl ?_
  intro p e s m args below meth c s₁ Bd hml hv
  obtain ⟨rfl, hH0, hX, hG, hg_r0, hg_r2, hP0, hp0⟩ := hv
  have hK := hG.1
  have hx := Bd.exec
  have hb := Bd.bytes
  have hr := Bd.returns
  have hts := atoms_spec (ws := (jw yX11_placeTold cX11_placeTold 5 (some .int))) Bd.pre
  have htw : ∀ w ∈ jWl, w.before _ s = true := fun w h => hts w (List.mem_cons_of_mem _ h)
  have hown : s.vm.findClass RX11 = some m.cls := findClass_of_methodNamed Bd.named
  have hlocks := Bd.notSynchronized
  obtain ⟨Q, hQ⟩ : ∃ Q, Q = MQ below (va_Qi (S := Unit) (fun r u => (True)) (fun u t => jRt (dC, dI) B base G0 EX11_placeTold H0 [] t.heap) (jA base)) ([.ref r0, .int a1, .ref r2] : List Value).toArray s 0 0 (jA base) := ⟨_, rfl⟩
  rw [← hQ]
  have hl := lv_entry ([.ref r0, .int a1, .ref r2]) (n := 5) (Nat.le_of_ble_eq_true rfl)
  rw [lg_entry_eq]
  generalize (lg_sl ([.ref r0, .int a1, .ref r2]) ++ List.replicate (5 - (lg_sl ([.ref r0, .int a1, .ref r2])).length) Slot.unset).toArray = ls at hl ⊢
  have hl : lv_has ls 5 [(0, .ref r0), (1, .int a1), (2, .ref r2)] := hl
  generalize hR : (headSpec (jw yX11_placeTold cX11_placeTold 5 (some .int)) ({ frames := 6, cells := 0, slots := 0, locals := 190 })).room = R
  subst hH0
  have hh : jSt (dC, dI) B base G0 G0 EX11_placeTold s.heap 0 0 [] [] [] s.heap [] := jSt.start hX hP0 jMc.nil jIs.nil
  clear hX hP0
  have hkm1 : ((-1) : Int32).toInt = (-1) := by decide
  have hk0 : (0 : Int32).toInt = 0 := by decide
  have hk1 : (1 : Int32).toInt = 1 := by decide
  have hk4 : (4 : Int32).toInt = 4 := by decide
  have hly_13_2 := htw (u_lay RX11 TX11 2) (jWc_wsX110 _ (u_in_lay (by decide)))
  have hlk_28 := (htw (.fieldLink RX11 28 "ProofServer" "json" "LProofServer$Json;") (jWr_1 _ (List.mem_of_getElem? (i := 23) rfl)))
  obtain ⟨str415, rstr415, hstr4150⟩ := hG.str (o := RX11) (k := 415) (tx := "line") (List.mem_of_getElem? (i := 917) (by decide +kernel))
  have hstr415 : jStr base str415 4 s s.heap := hstr4150
  obtain ⟨str417, rstr417, hstr4170⟩ := hG.str (o := RX11) (k := 417) (tx := "character") (List.mem_of_getElem? (i := 918) (by decide +kernel))
  have hstr417 : jStr base str417 9 s s.heap := hstr4170
  have hrg_a1 := jb_rng a1
  refine lv_aload_n hx hb dX11_placeTold_0 rfl (lv_at hl 0 rfl) ?_
  obtain ⟨v_1, hv_1, hh_2⟩ := hh.pin (C := RX11) (T := TX11) (N := 19) hB13 rfl (by decide) hg_r0 (i := 2) (by decide) rfl
  clear hh
  obtain ⟨json_3, rfl, hg_json_3⟩ := hv_1
  refine j7_read hx hb hown hK (C := RX11) (T := TX11) (N := 19) rfl hly_13_2 hlk_28 (hh_2.at 0 rfl) dX11_placeTold_1 ?_
  refine lv_iload_n hx hb dX11_placeTold_4 rfl (lv_at hl 1 rfl) ?_
  refine j_ldcSw hx hb hown rstr415 dX11_placeTold_5 ?_
  refine va_calli (A0 := jA base) (H0 := s.heap) (va_runV (As := [.int a1, .ref str415]) (rest := []) ⟨hx, hb, hml, hown, hts⟩ (uX4_member l dC dI ca base B hB hAp hB6 hB140 hB141 hB142 hB143 hB144 hB145 hB146 G0 s.heap json_3 a1 str415 4) (cwV 2 hts (jgV (jWr_23 _ (List.mem_of_getElem? (i := 10) rfl)) (jWr_23 _ (List.mem_of_getElem? (i := 11) rfl)) (jWr_23 _ (List.mem_of_getElem? (i := 12) rfl)) (jWr_1 _ (List.mem_of_getElem? (i := 22) rfl)) (jWr_23 _ (List.mem_of_getElem? (i := 13) rfl))) rfl rfl rfl (by decide +kernel) ⟨by rw [← hR]; exact Nat.le_of_ble_eq_true rfl, by rw [← hR]; exact Nat.le_of_ble_eq_true rfl⟩) ⟨fun a U g mk q => by obtain ⟨q0, q1, q2, qK, q10, q11, q12, q13⟩ := q; exact ⟨q0, q1, q2, jG.calling g mk a qK, (q10.moved (Vm.Alike.refl U.vm)), q11, q12, q13⟩, hh_2.recv (C := RX4) (T := TX4) (N := 12) hB6 rfl (by decide) hg_json_3 hK, fun U hU hW => ⟨rfl, hU, hh_2.2.1, hG.step hW hU hh_2.1, (hstr415.moved hW.alike).kept hh_2.1.2.1, hg_json_3, jP.nil, by first | omega | rfl | assumption | decide | exact Or.inl rfl | exact Or.inr rfl | (simp only; omega)⟩⟩ rfl rfl hl.1 rfl (lv_room (Nat.le_of_ble_eq_true rfl)) dX11_placeTold_8 ⟨Nat.zero_le _, Nat.zero_le _⟩) hh_2.1 (fun q _ h => h) (fun q h => h) (fun r_5 u_4 t_4 H_4 locs_4 ht_4 hvm_4 hr_5 hb_4 hz_4 hk_4 hS_4 => ?_)
  rw [ht_4] at hb_4
  obtain ⟨hb_41, hb_42, hb_43, hb_44, hb_45⟩ := hb_4
  have hh_4 : jSt (dC, dI) B base G0 G0 EX11_placeTold s.heap 0 0 [(r0, 13, 2, .ref json_3)] [] [] H_4 locs_4 := ((hh_2.call hb_41 hb_42 hb_43 hb_44 hS_4 rfl (L1 := [(r0, 13, 2, .ref json_3)]) [0] rfl rfl (M1 := []) [] rfl rfl (I1 := []) [] rfl rfl).more hb_45)
  clear hh_2 ht_4 hvm_4 hz_4 hk_4 hS_4 hb_41 hb_42 hb_43 hb_44 hb_45
  obtain ⟨hr_5_0, hr_5_1⟩ := hr_5
  refine lv_istore_n (lv' := [(3, .int r_5), (0, .ref r0), (1, .int a1), (2, .ref r2)]) hx hb dX11_placeTold_11 rfl hl (by decide) rfl (fun ls hl => ?_)
  refine lv_aload_n hx hb dX11_placeTold_12 rfl (lv_at hl 1 rfl) ?_
  refine j7_read hx hb hown hK (C := RX11) (T := TX11) (N := 19) rfl hly_13_2 hlk_28 (hh_4.at 0 rfl) dX11_placeTold_13 ?_
  refine lv_iload_n hx hb dX11_placeTold_16 rfl (lv_at hl 2 rfl) ?_
  refine j_ldcSw hx hb hown rstr417 dX11_placeTold_17 ?_
  refine va_calli (A0 := jA base) (H0 := s.heap) (va_runV (As := [.int a1, .ref str417]) (rest := []) ⟨hx, hb, hml, hown, hts⟩ (uX4_member l dC dI ca base B hB hAp hB6 hB140 hB141 hB142 hB143 hB144 hB145 hB146 G0 H_4 json_3 a1 str417 9) (cwV 2 hts (jgV (jWr_23 _ (List.mem_of_getElem? (i := 10) rfl)) (jWr_23 _ (List.mem_of_getElem? (i := 11) rfl)) (jWr_23 _ (List.mem_of_getElem? (i := 12) rfl)) (jWr_1 _ (List.mem_of_getElem? (i := 22) rfl)) (jWr_23 _ (List.mem_of_getElem? (i := 13) rfl))) rfl rfl rfl (by decide +kernel) ⟨by rw [← hR]; exact Nat.le_of_ble_eq_true rfl, by rw [← hR]; exact Nat.le_of_ble_eq_true rfl⟩) ⟨fun a U g mk q => by obtain ⟨q0, q1, q2, qK, q10, q11, q12, q13⟩ := q; exact ⟨q0, q1, q2, jG.calling g mk a qK, (q10.moved (Vm.Alike.refl U.vm)), q11, q12, q13⟩, hh_4.recv (C := RX4) (T := TX4) (N := 12) hB6 rfl (by decide) hg_json_3 hK, fun U hU hW => ⟨rfl, hU, hh_4.2.1, hG.step hW hU hh_4.1, (hstr417.moved hW.alike).kept hh_4.1.2.1, hg_json_3, jP.nil, by first | omega | rfl | assumption | decide | exact Or.inl rfl | exact Or.inr rfl | (simp only; omega)⟩⟩ rfl rfl hl.1 rfl (lv_room (Nat.le_of_ble_eq_true rfl)) dX11_placeTold_20 ⟨Nat.zero_le _, Nat.zero_le _⟩) hh_4.1 (fun q _ h => h) (fun q h => h) (fun r_7 u_6 t_6 H_6 locs_6 ht_6 hvm_6 hr_7 hb_6 hz_6 hk_6 hS_6 => ?_)
  rw [ht_6] at hb_6
  obtain ⟨hb_61, hb_62, hb_63, hb_64, hb_65⟩ := hb_6
  have hh_6 : jSt (dC, dI) B base G0 G0 EX11_placeTold s.heap 0 0 [(r0, 13, 2, .ref json_3)] [] [] H_6 locs_6 := ((hh_4.call hb_61 hb_62 hb_63 hb_64 hS_6 rfl (L1 := [(r0, 13, 2, .ref json_3)]) [0] rfl rfl (M1 := []) [] rfl rfl (I1 := []) [] rfl rfl).more hb_65)
  clear hh_4 ht_6 hvm_6 hz_6 hk_6 hS_6 hb_61 hb_62 hb_63 hb_64 hb_65
  obtain ⟨hr_7_0, hr_7_1⟩ := hr_7
  refine lv_istore (lv' := [(4, .int r_7), (3, .int r_5), (0, .ref r0), (1, .int a1), (2, .ref r2)]) hx hb dX11_placeTold_23 hl (by decide) rfl (fun ls hl => ?_)
  refine lv_aload_n hx hb dX11_placeTold_25 rfl (lv_at hl 2 rfl) ?_
  refine j7_read hx hb hown hK (C := RX11) (T := TX11) (N := 19) rfl hly_13_2 hlk_28 (hh_6.at 0 rfl) dX11_placeTold_26 ?_
  refine lv_iload_n hx hb dX11_placeTold_29 rfl (lv_at hl 1 rfl) ?_
  obtain ⟨v_10, hv_10, hh_11⟩ := hh_6.pin (C := RX4) (T := TX4) (N := 12) hB6 rfl (by decide) hg_json_3 (i := 7) (by decide) rfl
  obtain ⟨values_12, rfl, hlovalues_12, hhivalues_12⟩ := hv_10
  refine va_calli (A0 := jA base) (H0 := s.heap) (va_runV (As := [.int r_5]) (rest := []) ⟨hx, hb, hml, hown, hts⟩ (uX4_kindOf l dC dI ca base B hB hAp hB6 hB140 G0 H_6 json_3 r_5 values_12) (cwV 1 hts (jgV (jWr_27 _ (List.mem_of_getElem? (i := 5) rfl)) (jWr_23 _ (List.mem_of_getElem? (i := 15) rfl)) (jWr_23 _ (List.mem_of_getElem? (i := 16) rfl)) (jWr_1 _ (List.mem_of_getElem? (i := 22) rfl)) (jWr_23 _ (List.mem_of_getElem? (i := 17) rfl))) rfl rfl rfl (by decide +kernel) ⟨by rw [← hR]; exact Nat.le_of_ble_eq_true rfl, by rw [← hR]; exact Nat.le_of_ble_eq_true rfl⟩) ⟨fun a U g mk q => by obtain ⟨q0, q1, q2, qK, q10, q11, q12⟩ := q; exact ⟨q0, q1, q2, jG.calling g mk a qK, q10, q11, q12⟩, hh_11.recv (C := RX4) (T := TX4) (N := 12) hB6 rfl (by decide) hg_json_3 hK, fun U hU hW => ⟨rfl, hU, hh_11.2.1, hG.step hW hU hh_11.1, hg_json_3, (hh_11.2.2.1.sub (L1 := [(json_3, 6, 7, .int values_12)]) [0] rfl), by first | omega | (refine ⟨?_, ?_⟩ <;> (first | omega | rfl | assumption | decide | exact Or.inl rfl | exact Or.inr rfl | (simp only; omega)))⟩⟩ rfl rfl hl.1 rfl (lv_room (Nat.le_of_ble_eq_true rfl)) dX11_placeTold_30 ⟨Nat.zero_le _, Nat.zero_le _⟩) hh_11.1 (fun q _ h => h) (fun q h => h) (fun r_9 u_8 t_8 H_8 locs_8 ht_8 hvm_8 hr_9 hb_8 hz_8 hk_8 hS_8 => ?_)
  rw [ht_8] at hb_8
  obtain ⟨hb_81, hb_82, hb_83, hb_84, hb_85⟩ := hb_8
  have hh_8 : jSt (dC, dI) B base G0 G0 EX11_placeTold s.heap 0 0 [(json_3, 6, 7, .int values_12), (r0, 13, 2, .ref json_3)] [] [] H_8 locs_8 := ((hh_11.call hb_81 hb_82 hb_83 hb_84 hS_8 rfl (L1 := [(json_3, 6, 7, .int values_12), (r0, 13, 2, .ref json_3)]) [0, 1] rfl rfl (M1 := []) [] rfl rfl (I1 := []) [] rfl rfl).more hb_85)
  clear hh_11 ht_8 hvm_8 hz_8 hk_8 hS_8 hb_81 hb_82 hb_83 hb_84 hb_85
  refine lv_iconst (v := 4) hx hb dX11_placeTold_33 (by decide) ?_
  refine lv_icmp_ne (tgt := 50) hx hb dX11_placeTold_34 (by decide) (fun c_13 => ?_) (fun c_13 => ?_)
  · skip
    have c_13' : r_9.toInt ≠ 4 := jb_ne (rfl) ((by decide)) c_13
    try clear hr_9
    refine lv_iconst (v := (-1)) hx hb dX11_placeTold_50 (by decide) ?_
    rw [hQ]
    exact W.iret (v := (-1)) hx hb hr (fun t ht hW => ⟨⟨(-1), (), rfl, trivial, hh_8.rt (M1 := []) [] rfl ht⟩, by rw [ht]; try exact hh_8.1.1, fun q h9 hq => by rw [ht]; try exact hh_8.1.2.1 q h9 hq⟩) hh_8.1.2.2 dX11_placeTold_51
  · skip
    have c_13' : r_9.toInt = 4 := jb_ne_n (rfl) ((by decide)) c_13
    first | (have hr_9q := hr_9.resolve_left (by omega); clear hr_9) | (have hr_9q := hr_9.resolve_right (by omega); clear hr_9) | try clear hr_9
    refine lv_aload_n hx hb dX11_placeTold_37 rfl (lv_at hl 2 rfl) ?_
    refine j7_read hx hb hown hK (C := RX11) (T := TX11) (N := 19) rfl hly_13_2 hlk_28 (hh_8.at 1 rfl) dX11_placeTold_38 ?_
    refine lv_iload hx hb dX11_placeTold_41 (lv_at hl 0 rfl) ?_
    refine va_calli (A0 := jA base) (H0 := s.heap) (va_runV (As := [.int r_7]) (rest := []) ⟨hx, hb, hml, hown, hts⟩ (uX4_kindOf l dC dI ca base B hB hAp hB6 hB140 G0 H_8 json_3 r_7 values_12) (cwV 1 hts (jgV (jWr_27 _ (List.mem_of_getElem? (i := 5) rfl)) (jWr_23 _ (List.mem_of_getElem? (i := 15) rfl)) (jWr_23 _ (List.mem_of_getElem? (i := 16) rfl)) (jWr_1 _ (List.mem_of_getElem? (i := 22) rfl)) (jWr_23 _ (List.mem_of_getElem? (i := 17) rfl))) rfl rfl rfl (by decide +kernel) ⟨by rw [← hR]; exact Nat.le_of_ble_eq_true rfl, by rw [← hR]; exact Nat.le_of_ble_eq_true rfl⟩) ⟨fun a U g mk q => by obtain ⟨q0, q1, q2, qK, q10, q11, q12⟩ := q; exact ⟨q0, q1, q2, jG.calling g mk a qK, q10, q11, q12⟩, hh_8.recv (C := RX4) (T := TX4) (N := 12) hB6 rfl (by decide) hg_json_3 hK, fun U hU hW => ⟨rfl, hU, hh_8.2.1, hG.step hW hU hh_8.1, hg_json_3, (hh_8.2.2.1.sub (L1 := [(json_3, 6, 7, .int values_12)]) [0] rfl), by first | omega | (refine ⟨?_, ?_⟩ <;> (first | omega | rfl | assumption | decide | exact Or.inl rfl | exact Or.inr rfl | (simp only; omega)))⟩⟩ rfl rfl hl.1 rfl (lv_room (Nat.le_of_ble_eq_true rfl)) dX11_placeTold_43 ⟨Nat.zero_le _, Nat.zero_le _⟩) hh_8.1 (fun q _ h => h) (fun q h => h) (fun r_15 u_14 t_14 H_14 locs_14 ht_14 hvm_14 hr_15 hb_14 hz_14 hk_14 hS_14 => ?_)
    rw [ht_14] at hb_14
    obtain ⟨hb_141, hb_142, hb_143, hb_144, hb_145⟩ := hb_14
    have hh_14 : jSt (dC, dI) B base G0 G0 EX11_placeTold s.heap 0 0 [(json_3, 6, 7, .int values_12), (r0, 13, 2, .ref json_3)] [] [] H_14 locs_14 := ((hh_8.call hb_141 hb_142 hb_143 hb_144 hS_14 rfl (L1 := [(json_3, 6, 7, .int values_12), (r0, 13, 2, .ref json_3)]) [0, 1] rfl rfl (M1 := []) [] rfl rfl (I1 := []) [] rfl rfl).more hb_145)
    clear hh_8 ht_14 hvm_14 hz_14 hk_14 hS_14 hb_141 hb_142 hb_143 hb_144 hb_145
    refine lv_iconst (v := 4) hx hb dX11_placeTold_46 (by decide) ?_
    refine lv_icmp_eq (tgt := 52) hx hb dX11_placeTold_47 (by decide) (fun c_16 => ?_) (fun c_16 => ?_)
    · skip
      have c_16' : r_15.toInt = 4 := jb_eq (rfl) ((by decide)) c_16
      first | (have hr_15q := hr_15.resolve_left (by omega); clear hr_15) | (have hr_15q := hr_15.resolve_right (by omega); clear hr_15) | try clear hr_15
      refine lv_aload_n hx hb dX11_placeTold_52 rfl (lv_at hl 4 rfl) ?_
      refine lv_aload_n hx hb dX11_placeTold_53 rfl (lv_at hl 2 rfl) ?_
      refine j7_read hx hb hown hK (C := RX11) (T := TX11) (N := 19) rfl hly_13_2 hlk_28 (hh_14.at 1 rfl) dX11_placeTold_54 ?_
      refine lv_iload_n hx hb dX11_placeTold_57 rfl (lv_at hl 1 rfl) ?_
      refine va_calli (A0 := jA base) (H0 := s.heap) (va_runV (As := [.int r_5]) (rest := [.ref r2]) ⟨hx, hb, hml, hown, hts⟩ (uX4_valueOf l dC dI ca base B hB hAp hB6 hB141 G0 H_14 json_3 r_5) (cwV 1 hts (jgV (jWr_29 _ (List.mem_of_getElem? (i := 0) rfl)) (jWr_24 _ (List.mem_of_getElem? (i := 12) rfl)) (jWr_24 _ (List.mem_of_getElem? (i := 13) rfl)) (jWr_1 _ (List.mem_of_getElem? (i := 22) rfl)) (jWr_24 _ (List.mem_of_getElem? (i := 14) rfl))) rfl rfl rfl (by decide +kernel) ⟨by rw [← hR]; exact Nat.le_of_ble_eq_true rfl, by rw [← hR]; exact Nat.le_of_ble_eq_true rfl⟩) ⟨fun a U g mk q => by obtain ⟨q0, q1, q2, qK, q10, q11, q12⟩ := q; exact ⟨q0, q1, q2, jG.calling g mk a qK, q10, q11, q12⟩, hh_14.recv (C := RX4) (T := TX4) (N := 12) hB6 rfl (by decide) hg_json_3 hK, fun U hU hW => ⟨rfl, hU, hh_14.2.1, hG.step hW hU hh_14.1, hg_json_3, jP.nil, trivial⟩⟩ rfl rfl hl.1 rfl (lv_room (Nat.le_of_ble_eq_true rfl)) dX11_placeTold_58 ⟨Nat.zero_le _, Nat.zero_le _⟩) hh_14.1 (fun q _ h => h) (fun q h => h) (fun r_18 u_17 t_17 H_17 locs_17 ht_17 hvm_17 hr_18 hb_17 hz_17 hk_17 hS_17 => ?_)
      rw [ht_17] at hb_17
      obtain ⟨hb_171, hb_172, hb_173, hb_174, hb_175⟩ := hb_17
      have hh_17 : jSt (dC, dI) B base G0 G0 EX11_placeTold s.heap 0 0 [(json_3, 6, 7, .int values_12), (r0, 13, 2, .ref json_3)] [] [] H_17 locs_17 := ((hh_14.call hb_171 hb_172 hb_173 hb_174 hS_17 rfl (L1 := [(json_3, 6, 7, .int values_12), (r0, 13, 2, .ref json_3)]) [0, 1] rfl rfl (M1 := []) [] rfl rfl (I1 := []) [] rfl rfl).more hb_175)
      clear hh_14 ht_17 hvm_17 hz_17 hk_17 hS_17 hb_171 hb_172 hb_173 hb_174 hb_175
      refine lv_aload_n hx hb dX11_placeTold_61 rfl (lv_at hl 2 rfl) ?_
      refine j7_read hx hb hown hK (C := RX11) (T := TX11) (N := 19) rfl hly_13_2 hlk_28 (hh_17.at 1 rfl) dX11_placeTold_62 ?_
      refine lv_iload hx hb dX11_placeTold_65 (lv_at hl 0 rfl) ?_
      refine va_calli (A0 := jA base) (H0 := s.heap) (va_runV (As := [.int r_7]) (rest := [.int r_18, .ref r2]) ⟨hx, hb, hml, hown, hts⟩ (uX4_valueOf l dC dI ca base B hB hAp hB6 hB141 G0 H_17 json_3 r_7) (cwV 1 hts (jgV (jWr_29 _ (List.mem_of_getElem? (i := 0) rfl)) (jWr_24 _ (List.mem_of_getElem? (i := 12) rfl)) (jWr_24 _ (List.mem_of_getElem? (i := 13) rfl)) (jWr_1 _ (List.mem_of_getElem? (i := 22) rfl)) (jWr_24 _ (List.mem_of_getElem? (i := 14) rfl))) rfl rfl rfl (by decide +kernel) ⟨by rw [← hR]; exact Nat.le_of_ble_eq_true rfl, by rw [← hR]; exact Nat.le_of_ble_eq_true rfl⟩) ⟨fun a U g mk q => by obtain ⟨q0, q1, q2, qK, q10, q11, q12⟩ := q; exact ⟨q0, q1, q2, jG.calling g mk a qK, q10, q11, q12⟩, hh_17.recv (C := RX4) (T := TX4) (N := 12) hB6 rfl (by decide) hg_json_3 hK, fun U hU hW => ⟨rfl, hU, hh_17.2.1, hG.step hW hU hh_17.1, hg_json_3, jP.nil, trivial⟩⟩ rfl rfl hl.1 rfl (lv_room (Nat.le_of_ble_eq_true rfl)) dX11_placeTold_67 ⟨Nat.zero_le _, Nat.zero_le _⟩) hh_17.1 (fun q _ h => h) (fun q h => h) (fun r_20 u_19 t_19 H_19 locs_19 ht_19 hvm_19 hr_20 hb_19 hz_19 hk_19 hS_19 => ?_)
      rw [ht_19] at hb_19
      obtain ⟨hb_191, hb_192, hb_193, hb_194, hb_195⟩ := hb_19
      have hh_19 : jSt (dC, dI) B base G0 G0 EX11_placeTold s.heap 0 0 [(json_3, 6, 7, .int values_12), (r0, 13, 2, .ref json_3)] [] [] H_19 locs_19 := ((hh_17.call hb_191 hb_192 hb_193 hb_194 hS_19 rfl (L1 := [(json_3, 6, 7, .int values_12), (r0, 13, 2, .ref json_3)]) [0, 1] rfl rfl (M1 := []) [] rfl rfl (I1 := []) [] rfl rfl).more hb_195)
      clear hh_17 ht_19 hvm_19 hz_19 hk_19 hS_19 hb_191 hb_192 hb_193 hb_194 hb_195
      refine va_calli (A0 := jA base) (H0 := s.heap) (va_runV (As := [.int r_18, .int r_20]) (rest := []) ⟨hx, hb, hml, hown, hts⟩ (uX1_placeOf l dC dI ca base B hB hAp hB3 hB101 G0 H_19 r2 r_18 r_20 n2) (cwV 2 hts (jgV (jWr_29 _ (List.mem_of_getElem? (i := 1) rfl)) (jWr_29 _ (List.mem_of_getElem? (i := 2) rfl)) (jWr_29 _ (List.mem_of_getElem? (i := 3) rfl)) (jWr_2 _ (List.mem_of_getElem? (i := 21) rfl)) (jWr_29 _ (List.mem_of_getElem? (i := 4) rfl))) rfl rfl rfl (by decide +kernel) ⟨by rw [← hR]; exact Nat.le_of_ble_eq_true rfl, by rw [← hR]; exact Nat.le_of_ble_eq_true rfl⟩) ⟨fun a U g mk q => by obtain ⟨q0, q1, q2, qK, q10, q11, q12⟩ := q; exact ⟨q0, q1, q2, jG.calling g mk a qK, q10, q11, q12⟩, hh_19.recv (C := RX1) (T := TX1) (N := 17) hB3 rfl (by decide) hg_r2 hK, fun U hU hW => ⟨rfl, hU, hh_19.2.1, hG.step hW hU hh_19.1, hg_r2, jP.nil, trivial⟩⟩ rfl rfl hl.1 rfl (lv_room (Nat.le_of_ble_eq_true rfl)) dX11_placeTold_70 ⟨Nat.zero_le _, Nat.zero_le _⟩) hh_19.1 (fun q _ h => h) (fun q h => h) (fun r_22 u_21 t_21 H_21 locs_21 ht_21 hvm_21 hr_22 hb_21 hz_21 hk_21 hS_21 => ?_)
      rw [ht_21] at hb_21
      obtain ⟨hb_211, hb_212, hb_213, hb_214, hb_215⟩ := hb_21
      have hh_21 : jSt (dC, dI) B base G0 G0 EX11_placeTold s.heap 0 0 [(json_3, 6, 7, .int values_12), (r0, 13, 2, .ref json_3)] [] [] H_21 locs_21 := ((hh_19.call hb_211 hb_212 hb_213 hb_214 hS_21 rfl (L1 := [(json_3, 6, 7, .int values_12), (r0, 13, 2, .ref json_3)]) [0, 1] rfl rfl (M1 := []) [] rfl rfl (I1 := []) [] rfl rfl).more hb_215)
      clear hh_19 ht_21 hvm_21 hz_21 hk_21 hS_21 hb_211 hb_212 hb_213 hb_214 hb_215
      obtain ⟨hr_22_0, hr_22_1⟩ := hr_22
      rw [hQ]
      exact W.iret (v := r_22) hx hb hr (fun t ht hW => ⟨⟨r_22, (), rfl, trivial, hh_21.rt (M1 := []) [] rfl ht⟩, by rw [ht]; try exact hh_21.1.1, fun q h9 hq => by rw [ht]; try exact hh_21.1.2.1 q h9 hq⟩) hh_21.1.2.2 dX11_placeTold_73
    · skip
      have c_16' : r_15.toInt ≠ 4 := jb_eq_n (rfl) ((by decide)) c_16
      try clear hr_15
      refine lv_iconst (v := (-1)) hx hb dX11_placeTold_50 (by decide) ?_
      rw [hQ]
      exact W.iret (v := (-1)) hx hb hr (fun t ht hW => ⟨⟨(-1), (), rfl, trivial, hh_14.rt (M1 := []) [] rfl ht⟩, by rw [ht]; try exact hh_14.1.1, fun q h9 hq => by rw [ht]; try exact hh_14.1.2.1 q h9 hq⟩) hh_14.1.2.2 dX11_placeTold_51
end
section
theorem dX11_aimAtPlace_0 : decode cX11_aimAtPlace 0 = .ok (.aload_n 0, 1) := by decide +kernel
theorem dX11_aimAtPlace_1 : decode cX11_aimAtPlace 1 = .ok (.invokevirtual 359, 3) := by decide +kernel
theorem dX11_aimAtPlace_4 : decode cX11_aimAtPlace 4 = .ok (.astore_n 2, 1) := by decide +kernel
theorem dX11_aimAtPlace_5 : decode cX11_aimAtPlace 5 = .ok (.aload_n 0, 1) := by decide +kernel
theorem dX11_aimAtPlace_6 : decode cX11_aimAtPlace 6 = .ok (.getfield 28, 3) := by decide +kernel
theorem dX11_aimAtPlace_9 : decode cX11_aimAtPlace 9 = .ok (.aload_n 0, 1) := by decide +kernel
theorem dX11_aimAtPlace_10 : decode cX11_aimAtPlace 10 = .ok (.getfield 28, 3) := by decide +kernel
theorem dX11_aimAtPlace_13 : decode cX11_aimAtPlace 13 = .ok (.iconst 0, 1) := by decide +kernel
theorem dX11_aimAtPlace_14 : decode cX11_aimAtPlace 14 = .ok (.ldc_w 271, 3) := by decide +kernel
theorem dX11_aimAtPlace_17 : decode cX11_aimAtPlace 17 = .ok (.invokevirtual 260, 3) := by decide +kernel
theorem dX11_aimAtPlace_20 : decode cX11_aimAtPlace 20 = .ok (.ldc_w 430, 3) := by decide +kernel
theorem dX11_aimAtPlace_23 : decode cX11_aimAtPlace 23 = .ok (.invokevirtual 260, 3) := by decide +kernel
theorem dX11_aimAtPlace_26 : decode cX11_aimAtPlace 26 = .ok (.istore_n 3, 1) := by decide +kernel
theorem dX11_aimAtPlace_27 : decode cX11_aimAtPlace 27 = .ok (.aload_n 2, 1) := by decide +kernel
theorem dX11_aimAtPlace_28 : decode cX11_aimAtPlace 28 = .ok (.ifnonnull 7, 3) := by decide +kernel
theorem dX11_aimAtPlace_31 : decode cX11_aimAtPlace 31 = .ok (.iconst (-1), 1) := by decide +kernel
theorem dX11_aimAtPlace_32 : decode cX11_aimAtPlace 32 = .ok (.goto 9, 3) := by decide +kernel
theorem dX11_aimAtPlace_35 : decode cX11_aimAtPlace 35 = .ok (.aload_n 0, 1) := by decide +kernel
theorem dX11_aimAtPlace_36 : decode cX11_aimAtPlace 36 = .ok (.iload_n 3, 1) := by decide +kernel
theorem dX11_aimAtPlace_37 : decode cX11_aimAtPlace 37 = .ok (.aload_n 2, 1) := by decide +kernel
theorem dX11_aimAtPlace_38 : decode cX11_aimAtPlace 38 = .ok (.invokevirtual 409, 3) := by decide +kernel
theorem dX11_aimAtPlace_41 : decode cX11_aimAtPlace 41 = .ok (.istore 4, 2) := by decide +kernel
theorem dX11_aimAtPlace_43 : decode cX11_aimAtPlace 43 = .ok (.iload 4, 2) := by decide +kernel
theorem dX11_aimAtPlace_45 : decode cX11_aimAtPlace 45 = .ok (.ifCond .ge 5, 3) := by decide +kernel
theorem dX11_aimAtPlace_48 : decode cX11_aimAtPlace 48 = .ok (.iconst 0, 1) := by decide +kernel
theorem dX11_aimAtPlace_49 : decode cX11_aimAtPlace 49 = .ok (.ireturn, 1) := by decide +kernel
theorem dX11_aimAtPlace_50 : decode cX11_aimAtPlace 50 = .ok (.aload_n 1, 1) := by decide +kernel
theorem dX11_aimAtPlace_51 : decode cX11_aimAtPlace 51 = .ok (.aload_n 2, 1) := by decide +kernel
theorem dX11_aimAtPlace_52 : decode cX11_aimAtPlace 52 = .ok (.putfield 432, 3) := by decide +kernel
theorem dX11_aimAtPlace_55 : decode cX11_aimAtPlace 55 = .ok (.aload_n 1, 1) := by decide +kernel
theorem dX11_aimAtPlace_56 : decode cX11_aimAtPlace 56 = .ok (.aload_n 2, 1) := by decide +kernel
theorem dX11_aimAtPlace_57 : decode cX11_aimAtPlace 57 = .ok (.iload 4, 2) := by decide +kernel
theorem dX11_aimAtPlace_59 : decode cX11_aimAtPlace 59 = .ok (.invokevirtual 435, 3) := by decide +kernel
theorem dX11_aimAtPlace_62 : decode cX11_aimAtPlace 62 = .ok (.putfield 438, 3) := by decide +kernel
theorem dX11_aimAtPlace_65 : decode cX11_aimAtPlace 65 = .ok (.iconst 1, 1) := by decide +kernel
theorem dX11_aimAtPlace_66 : decode cX11_aimAtPlace 66 = .ok (.ireturn, 1) := by decide +kernel
def EX11_aimAtPlace : List (Nat × Nat) := [(10, 1), (10, 2)]
set_option maxHeartbeats 4000000 in
set_option maxRecDepth 20000 in
theorem uX11_aimAtPlace (l : Launch) (dC : Nat → ClassId) (dI : Nat → Nat → Nat) (ca : Nat → ClassId) (base : Nat) (B : jF) (hB : jBok B) (hAp : jAp (dC, dI)) (hB1 : ∀ n G a H, B 1 n G a H ↔ jOb (dC, dI) 1 3 (F1 n G) a H) (hB3 : ∀ n G a H, B 3 n G a H ↔ jOb (dC, dI) 3 17 (F3 n G) a H) (hB6 : ∀ n G a H, B 6 n G a H ↔ jOb (dC, dI) 6 12 (F6 n G) a H) (hB10 : ∀ n G a H, B 10 n G a H ↔ jOb (dC, dI) 10 5 (F10 n G) a H) (hB13 : ∀ n G a H, B 13 n G a H ↔ jOb (dC, dI) 13 19 (F13 n G) a H) (hB101 : ∀ n G a H, B 101 n G a H ↔ jAr (dC, dI) (ca 1) (fun j z => True) n a H) (hB140 : ∀ n G a H, B 140 n G a H ↔ jAr (dC, dI) (ca 1) (fun j z => True) n a H) (hB141 : ∀ n G a H, B 141 n G a H ↔ jAr (dC, dI) (ca 1) (fun j z => True) n a H) (hB142 : ∀ n G a H, B 142 n G a H ↔ jAr (dC, dI) (ca 1) (fun j z => True) n a H) (hB143 : ∀ n G a H, B 143 n G a H ↔ jAr (dC, dI) (ca 1) (fun j z => True) n a H) (hB144 : ∀ n G a H, B 144 n G a H ↔ jAr (dC, dI) (ca 1) (fun j z => 0 ≤ z.toInt ∧ z.toInt ≤ 3000) n a H) (hB145 : ∀ n G a H, B 145 n G a H ↔ jAr (dC, dI) (ca 1) (fun j z => True) n a H) (hB146 : ∀ n G a H, B 146 n G a H ↔ jAr (dC, dI) (ca 1) (fun j z => True) n a H) (hB172 : ∀ n G a H, B 172 n G a H ↔ jAr (dC, dI) (ca 1) (fun j z => 0 ≤ z.toInt ∧ z.toInt ≤ 1500) n a H) (hB221 : ∀ n G a H, B 221 n G a H ↔ jAq (dC, dI) (ca 9) (jQn 3 0) n G a H) (G0 : jT) (H0 : Heap) (r0 : Nat) (r1 : Nat) : Met l yX11_aimAtPlace (jw yX11_aimAtPlace cX11_aimAtPlace 5 (some .boolean)) ({ frames := 7, cells := 0, slots := 0, locals := 214 }) (va_Pc [.ref r0, .ref r1] (fun U => U.heap = H0 ∧ jX B base G0 [] H0 ∧ jG dC dI ca base U ∧ jK7 dC dI ca base U ∧ G0 r0 = some (13, 0) ∧ G0 r1 = some (10, 0) ∧ jP (dC, dI) G0 H0 [] ∧ jIs (dC, dI) G0 H0 [(jFl, jLs dC dI ca G0 3 none)] ∧ True)) (va_Qi (S := Unit) (fun r u => (r = 0 ∨ r = 1) ∧ (True)) (fun u t => (jRt (dC, dI) B base G0 EX11_aimAtPlace H0 [] t.heap) ∧ jIs (dC, dI) G0 t.heap [(jFl, jLs dC dI ca G0 3 none)]) (jA base)) 0 0 (jA base) := by
  refine Met.ofW (cc := cX11_aimAtPlace) (maxL := 5) (ret := (some .boolean)) (by decide) rfl ?_
  intro p e s m args below meth c s₁ Bd hml hv
  obtain ⟨rfl, hH0, hX, hG, hK7, hg_r0, hg_r1, hP0, hI0, hp0⟩ := hv
  have hK := hG.1
  have hx := Bd.exec
  have hb := Bd.bytes
  have hr := Bd.returns
  have hts := atoms_spec (ws := (jw yX11_aimAtPlace cX11_aimAtPlace 5 (some .boolean))) Bd.pre
  have htw : ∀ w ∈ jWl, w.before _ s = true := fun w h => hts w (List.mem_cons_of_mem _ h)
  have hown : s.vm.findClass RX11 = some m.cls := findClass_of_methodNamed Bd.named
  have hlocks := Bd.notSynchronized
  obtain ⟨Q, hQ⟩ : ∃ Q, Q = MQ below (va_Qi (S := Unit) (fun r u => (r = 0 ∨ r = 1) ∧ (True)) (fun u t => (jRt (dC, dI) B base G0 EX11_aimAtPlace H0 [] t.heap) ∧ jIs (dC, dI) G0 t.heap [(jFl, jLs dC dI ca G0 3 none)]) (jA base)) ([.ref r0, .ref r1] : List Value).toArray s 0 0 (jA base) := ⟨_, rfl⟩
  rw [← hQ]
  have hl := lv_entry ([.ref r0, .ref r1]) (n := 5) (Nat.le_of_ble_eq_true rfl)
  rw [lg_entry_eq]
  generalize (lg_sl ([.ref r0, .ref r1]) ++ List.replicate (5 - (lg_sl ([.ref r0, .ref r1])).length) Slot.unset).toArray = ls at hl ⊢
  have hl : lv_has ls 5 [(0, .ref r0), (1, .ref r1)] := hl
  generalize hR : (headSpec (jw yX11_aimAtPlace cX11_aimAtPlace 5 (some .boolean)) ({ frames := 7, cells := 0, slots := 0, locals := 214 })).room = R
  subst hH0
  have hh : jSt (dC, dI) B base G0 G0 EX11_aimAtPlace s.heap 0 0 [] [] [(jFl, jLs dC dI ca G0 3 none)] s.heap [] := jSt.start hX hP0 jMc.nil hI0
  clear hX hP0
  have hkm1 : ((-1) : Int32).toInt = (-1) := by decide
  have hk0 : (0 : Int32).toInt = 0 := by decide
  have hk1 : (1 : Int32).toInt = 1 := by decide
  have hly_10_1 := htw (u_lay RX8 TX8 1) (jWc_wsX80 _ (u_in_lay (by decide)))
  have hly_10_2 := htw (u_lay RX8 TX8 2) (jWc_wsX80 _ (u_in_lay (by decide)))
  have hly_13_2 := htw (u_lay RX11 TX11 2) (jWc_wsX110 _ (u_in_lay (by decide)))
  have hlk_28 := (htw (.fieldLink RX11 28 "ProofServer" "json" "LProofServer$Json;") (jWr_1 _ (List.mem_of_getElem? (i := 23) rfl)))
  obtain ⟨str271, rstr271, hstr2710⟩ := hG.str (o := RX11) (k := 271) (tx := "params") (List.mem_of_getElem? (i := 852) (by decide +kernel))
  have hstr271 : jStr base str271 6 s s.heap := hstr2710
  obtain ⟨str430, rstr430, hstr4300⟩ := hG.str (o := RX11) (k := 430) (tx := "position") (List.mem_of_getElem? (i := 912) (by decide +kernel))
  have hstr430 : jStr base str430 8 s s.heap := hstr4300
  have hlk_432 := (htw (.fieldLink RX11 432 "ProofServer$Request" "about" "LProofServer$Document;") (jWr_27 _ (List.mem_of_getElem? (i := 14) rfl)))
  have hlk_438 := (htw (.fieldLink RX11 438 "ProofServer$Request" "needed" "I") (jWr_27 _ (List.mem_of_getElem? (i := 15) rfl)))
  refine lv_aload_n hx hb dX11_aimAtPlace_0 rfl (lv_at hl 0 rfl) ?_
  refine j_callx (A0 := jA base) (H0 := s.heap) (va_runV (As := []) (rest := []) ⟨hx, hb, hml, hown, hts⟩ (uX11_addressed l dC dI ca base B hB hAp hB1 hB3 hB6 hB13 hB101 hB140 hB141 hB142 hB143 hB144 hB145 hB146 hB221 G0 s.heap r0) (cwV 0 hts (jgV (jWr_27 _ (List.mem_of_getElem? (i := 16) rfl)) (jWr_27 _ (List.mem_of_getElem? (i := 17) rfl)) (jWr_27 _ (List.mem_of_getElem? (i := 18) rfl)) (jWr_1 _ (List.mem_of_getElem? (i := 2) rfl)) (jWr_27 _ (List.mem_of_getElem? (i := 19) rfl))) rfl rfl rfl (by decide +kernel) ⟨by rw [← hR]; exact Nat.le_of_ble_eq_true rfl, by rw [← hR]; exact Nat.le_of_ble_eq_true rfl⟩) ⟨fun a U g mk q => by obtain ⟨q0, q1, q2, qK, q10, q11, q12, q13, q14⟩ := q; exact ⟨q0, q1, q2, jG.calling g mk a qK, (jK7.calling g mk a q10), q11, q12, q13, q14⟩, hh.recv (C := RX11) (T := TX11) (N := 19) hB13 rfl (by decide) hg_r0 hK, fun U hU hW => ⟨rfl, hU, hh.2.1, hG.step hW hU hh.1, (hK7.step hW hU hh.1), hg_r0, jP.nil, (hh.2.2.2.2.2.2.2.2.sub (L1 := [(jFl, jLs dC dI ca G0 3 none)]) [0] rfl), trivial⟩⟩ rfl rfl hl.1 rfl (lv_room (Nat.le_of_ble_eq_true rfl)) dX11_aimAtPlace_1 ⟨Nat.zero_le _, Nat.zero_le _⟩) hh.1 (fun q _ h => h) (fun q h => h) (fun r_2 u_1 t_1 H_1 locs_1 ht_1 hvm_1 hr_2 hb_1 hz_1 hk_1 hS_1 => ?_)
  rw [ht_1] at hb_1
  obtain ⟨hb_1, hbE_1⟩ := hb_1
  obtain ⟨hb_11, hb_12, hb_13, hb_14, hb_15⟩ := hb_1
  have hh_1 : jSt (dC, dI) B base G0 G0 EX11_aimAtPlace s.heap 0 0 [] [] [(jFl, jLs dC dI ca G0 3 none)] H_1 locs_1 := (((hh.call hb_11 hb_12 hb_13 hb_14 hS_1 rfl (L1 := []) [] rfl rfl (M1 := []) [] rfl rfl (I1 := []) [] rfl rfl).more hb_15)).addIs hbE_1
  clear hh ht_1 hvm_1 hz_1 hk_1 hS_1 hb_11 hb_12 hb_13 hb_14 hb_15
  clear  hbE_1
  rcases hr_2 with rfl | ⟨ret_3, rfl, hg_ret_3⟩
  · skip
    refine j7_nst_n (lv' := [(2, .null), (0, .ref r0), (1, .ref r1)]) hx hb dX11_aimAtPlace_4 rfl hl (by decide) rfl (fun ls hl => ?_)
    refine lv_aload_n hx hb dX11_aimAtPlace_5 rfl (lv_at hl 1 rfl) ?_
    obtain ⟨v_4, hv_4, hh_5⟩ := hh_1.pin (C := RX11) (T := TX11) (N := 19) hB13 rfl (by decide) hg_r0 (i := 2) (by decide) rfl
    clear hh_1
    obtain ⟨json_6, rfl, hg_json_6⟩ := hv_4
    refine j7_read hx hb hown hK (C := RX11) (T := TX11) (N := 19) rfl hly_13_2 hlk_28 (hh_5.at 0 rfl) dX11_aimAtPlace_6 ?_
    refine lv_aload_n hx hb dX11_aimAtPlace_9 rfl (lv_at hl 1 rfl) ?_
    refine j7_read hx hb hown hK (C := RX11) (T := TX11) (N := 19) rfl hly_13_2 hlk_28 (hh_5.at 0 rfl) dX11_aimAtPlace_10 ?_
    refine lv_iconst (v := 0) hx hb dX11_aimAtPlace_13 (by decide) ?_
    refine j_ldcSw hx hb hown rstr271 dX11_aimAtPlace_14 ?_
    refine va_calli (A0 := jA base) (H0 := s.heap) (va_runV (As := [.int 0, .ref str271]) (rest := [.ref json_6]) ⟨hx, hb, hml, hown, hts⟩ (uX4_member l dC dI ca base B hB hAp hB6 hB140 hB141 hB142 hB143 hB144 hB145 hB146 G0 H_1 json_6 0 str271 6) (cwV 2 hts (jgV (jWr_23 _ (List.mem_of_getElem? (i := 10) rfl)) (jWr_23 _ (List.mem_of_getElem? (i := 11) rfl)) (jWr_23 _ (List.mem_of_getElem? (i := 12) rfl)) (jWr_1 _ (List.mem_of_getElem? (i := 22) rfl)) (jWr_23 _ (List.mem_of_getElem? (i := 13) rfl))) rfl rfl rfl (by decide +kernel) ⟨by rw [← hR]; exact Nat.le_of_ble_eq_true rfl, by rw [← hR]; exact Nat.le_of_ble_eq_true rfl⟩) ⟨fun a U g mk q => by obtain ⟨q0, q1, q2, qK, q10, q11, q12, q13⟩ := q; exact ⟨q0, q1, q2, jG.calling g mk a qK, (q10.moved (Vm.Alike.refl U.vm)), q11, q12, q13⟩, hh_5.recv (C := RX4) (T := TX4) (N := 12) hB6 rfl (by decide) hg_json_6 hK, fun U hU hW => ⟨rfl, hU, hh_5.2.1, hG.step hW hU hh_5.1, (hstr271.moved hW.alike).kept hh_5.1.2.1, hg_json_6, jP.nil, by first | omega | rfl | assumption | decide | exact Or.inl rfl | exact Or.inr rfl | (simp only; omega)⟩⟩ rfl rfl hl.1 rfl (lv_room (Nat.le_of_ble_eq_true rfl)) dX11_aimAtPlace_17 ⟨Nat.zero_le _, Nat.zero_le _⟩) hh_5.1 (fun q _ h => h) (fun q h => h) (fun r_8 u_7 t_7 H_7 locs_7 ht_7 hvm_7 hr_8 hb_7 hz_7 hk_7 hS_7 => ?_)
    rw [ht_7] at hb_7
    obtain ⟨hb_71, hb_72, hb_73, hb_74, hb_75⟩ := hb_7
    have hh_7 : jSt (dC, dI) B base G0 G0 EX11_aimAtPlace s.heap 0 0 [(r0, 13, 2, .ref json_6)] [] [(jFl, jLs dC dI ca G0 3 none)] H_7 locs_7 := ((hh_5.call hb_71 hb_72 hb_73 hb_74 hS_7 rfl (L1 := [(r0, 13, 2, .ref json_6)]) [0] rfl rfl (M1 := []) [] rfl rfl (I1 := [(jFl, jLs dC dI ca G0 3 none)]) [0] rfl rfl).more hb_75)
    clear hh_5 ht_7 hvm_7 hz_7 hk_7 hS_7 hb_71 hb_72 hb_73 hb_74 hb_75
    obtain ⟨hr_8_0, hr_8_1⟩ := hr_8
    refine j_ldcSw hx hb hown rstr430 dX11_aimAtPlace_20 ?_
    refine va_calli (A0 := jA base) (H0 := s.heap) (va_runV (As := [.int r_8, .ref str430]) (rest := []) ⟨hx, hb, hml, hown, hts⟩ (uX4_member l dC dI ca base B hB hAp hB6 hB140 hB141 hB142 hB143 hB144 hB145 hB146 G0 H_7 json_6 r_8 str430 8) (cwV 2 hts (jgV (jWr_23 _ (List.mem_of_getElem? (i := 10) rfl)) (jWr_23 _ (List.mem_of_getElem? (i := 11) rfl)) (jWr_23 _ (List.mem_of_getElem? (i := 12) rfl)) (jWr_1 _ (List.mem_of_getElem? (i := 22) rfl)) (jWr_23 _ (List.mem_of_getElem? (i := 13) rfl))) rfl rfl rfl (by decide +kernel) ⟨by rw [← hR]; exact Nat.le_of_ble_eq_true rfl, by rw [← hR]; exact Nat.le_of_ble_eq_true rfl⟩) ⟨fun a U g mk q => by obtain ⟨q0, q1, q2, qK, q10, q11, q12, q13⟩ := q; exact ⟨q0, q1, q2, jG.calling g mk a qK, (q10.moved (Vm.Alike.refl U.vm)), q11, q12, q13⟩, hh_7.recv (C := RX4) (T := TX4) (N := 12) hB6 rfl (by decide) hg_json_6 hK, fun U hU hW => ⟨rfl, hU, hh_7.2.1, hG.step hW hU hh_7.1, (hstr430.moved hW.alike).kept hh_7.1.2.1, hg_json_6, jP.nil, by first | omega | rfl | assumption | decide | exact Or.inl rfl | exact Or.inr rfl | (simp only; omega)⟩⟩ rfl rfl hl.1 rfl (lv_room (Nat.le_of_ble_eq_true rfl)) dX11_aimAtPlace_23 ⟨Nat.zero_le _, Nat.zero_le _⟩) hh_7.1 (fun q _ h => h) (fun q h => h) (fun r_10 u_9 t_9 H_9 locs_9 ht_9 hvm_9 hr_10 hb_9 hz_9 hk_9 hS_9 => ?_)
    rw [ht_9] at hb_9
    obtain ⟨hb_91, hb_92, hb_93, hb_94, hb_95⟩ := hb_9
    have hh_9 : jSt (dC, dI) B base G0 G0 EX11_aimAtPlace s.heap 0 0 [(r0, 13, 2, .ref json_6)] [] [(jFl, jLs dC dI ca G0 3 none)] H_9 locs_9 := ((hh_7.call hb_91 hb_92 hb_93 hb_94 hS_9 rfl (L1 := [(r0, 13, 2, .ref json_6)]) [0] rfl rfl (M1 := []) [] rfl rfl (I1 := [(jFl, jLs dC dI ca G0 3 none)]) [0] rfl rfl).more hb_95)
    clear hh_7 ht_9 hvm_9 hz_9 hk_9 hS_9 hb_91 hb_92 hb_93 hb_94 hb_95
    obtain ⟨hr_10_0, hr_10_1⟩ := hr_10
    refine lv_istore_n (lv' := [(3, .int r_10), (2, .null), (0, .ref r0), (1, .ref r1)]) hx hb dX11_aimAtPlace_26 rfl hl (by decide) rfl (fun ls hl => ?_)
    refine j7_nld_n hx hb dX11_aimAtPlace_27 rfl (lv_at hl 1 rfl) ?_
    refine lv_ifnonnullN hx hb dX11_aimAtPlace_28 ?_
    refine lv_iconst (v := (-1)) hx hb dX11_aimAtPlace_31 (by decide) ?_
    refine lv_goto (tgt := 41) hx hb dX11_aimAtPlace_32 (by decide) ?_
    refine lv_istore (lv' := [(4, .int (-1)), (3, .int r_10), (2, .null), (0, .ref r0), (1, .ref r1)]) hx hb dX11_aimAtPlace_41 hl (by decide) rfl (fun ls hl => ?_)
    refine lv_iload hx hb dX11_aimAtPlace_43 (lv_at hl 0 rfl) ?_
    refine lv_if_ge (tgt := 50) hx hb dX11_aimAtPlace_45 (by decide) (fun c_11 => ?_) (fun c_11 => ?_)
    · skip
      exact absurd c_11 (by decide)
    · skip
      refine lv_iconst (v := 0) hx hb dX11_aimAtPlace_48 (by decide) ?_
      rw [hQ]
      exact W.zret (v := 0) hx hb hr (jb_nz (Or.inl rfl)) (fun t ht hW => ⟨⟨0, (), rfl, ⟨(Or.inl rfl), trivial⟩, ⟨hh_9.rt (M1 := []) [] rfl ht, by rw [ht]; exact hh_9.2.2.2.2.2.2.2.2.sub (L1 := [(jFl, jLs dC dI ca G0 3 none)]) [0] rfl⟩⟩, by rw [ht]; try exact hh_9.1.1, fun q h9 hq => by rw [ht]; try exact hh_9.1.2.1 q h9 hq⟩) hh_9.1.2.2 dX11_aimAtPlace_49
  · skip
    refine lv_astore_n (lv' := [(2, .ref ret_3), (0, .ref r0), (1, .ref r1)]) hx hb dX11_aimAtPlace_4 rfl hl (by decide) rfl (fun ls hl => ?_)
    refine lv_aload_n hx hb dX11_aimAtPlace_5 rfl (lv_at hl 1 rfl) ?_
    obtain ⟨v_12, hv_12, hh_13⟩ := hh_1.pin (C := RX11) (T := TX11) (N := 19) hB13 rfl (by decide) hg_r0 (i := 2) (by decide) rfl
    clear hh_1
    obtain ⟨json_14, rfl, hg_json_14⟩ := hv_12
    refine j7_read hx hb hown hK (C := RX11) (T := TX11) (N := 19) rfl hly_13_2 hlk_28 (hh_13.at 0 rfl) dX11_aimAtPlace_6 ?_
    refine lv_aload_n hx hb dX11_aimAtPlace_9 rfl (lv_at hl 1 rfl) ?_
    refine j7_read hx hb hown hK (C := RX11) (T := TX11) (N := 19) rfl hly_13_2 hlk_28 (hh_13.at 0 rfl) dX11_aimAtPlace_10 ?_
    refine lv_iconst (v := 0) hx hb dX11_aimAtPlace_13 (by decide) ?_
    refine j_ldcSw hx hb hown rstr271 dX11_aimAtPlace_14 ?_
    refine va_calli (A0 := jA base) (H0 := s.heap) (va_runV (As := [.int 0, .ref str271]) (rest := [.ref json_14]) ⟨hx, hb, hml, hown, hts⟩ (uX4_member l dC dI ca base B hB hAp hB6 hB140 hB141 hB142 hB143 hB144 hB145 hB146 G0 H_1 json_14 0 str271 6) (cwV 2 hts (jgV (jWr_23 _ (List.mem_of_getElem? (i := 10) rfl)) (jWr_23 _ (List.mem_of_getElem? (i := 11) rfl)) (jWr_23 _ (List.mem_of_getElem? (i := 12) rfl)) (jWr_1 _ (List.mem_of_getElem? (i := 22) rfl)) (jWr_23 _ (List.mem_of_getElem? (i := 13) rfl))) rfl rfl rfl (by decide +kernel) ⟨by rw [← hR]; exact Nat.le_of_ble_eq_true rfl, by rw [← hR]; exact Nat.le_of_ble_eq_true rfl⟩) ⟨fun a U g mk q => by obtain ⟨q0, q1, q2, qK, q10, q11, q12, q13⟩ := q; exact ⟨q0, q1, q2, jG.calling g mk a qK, (q10.moved (Vm.Alike.refl U.vm)), q11, q12, q13⟩, hh_13.recv (C := RX4) (T := TX4) (N := 12) hB6 rfl (by decide) hg_json_14 hK, fun U hU hW => ⟨rfl, hU, hh_13.2.1, hG.step hW hU hh_13.1, (hstr271.moved hW.alike).kept hh_13.1.2.1, hg_json_14, jP.nil, by first | omega | rfl | assumption | decide | exact Or.inl rfl | exact Or.inr rfl | (simp only; omega)⟩⟩ rfl rfl hl.1 rfl (lv_room (Nat.le_of_ble_eq_true rfl)) dX11_aimAtPlace_17 ⟨Nat.zero_le _, Nat.zero_le _⟩) hh_13.1 (fun q _ h => h) (fun q h => h) (fun r_16 u_15 t_15 H_15 locs_15 ht_15 hvm_15 hr_16 hb_15 hz_15 hk_15 hS_15 => ?_)
    rw [ht_15] at hb_15
    obtain ⟨hb_151, hb_152, hb_153, hb_154, hb_155⟩ := hb_15
    have hh_15 : jSt (dC, dI) B base G0 G0 EX11_aimAtPlace s.heap 0 0 [(r0, 13, 2, .ref json_14)] [] [(jFl, jLs dC dI ca G0 3 none)] H_15 locs_15 := ((hh_13.call hb_151 hb_152 hb_153 hb_154 hS_15 rfl (L1 := [(r0, 13, 2, .ref json_14)]) [0] rfl rfl (M1 := []) [] rfl rfl (I1 := [(jFl, jLs dC dI ca G0 3 none)]) [0] rfl rfl).more hb_155)
    clear hh_13 ht_15 hvm_15 hz_15 hk_15 hS_15 hb_151 hb_152 hb_153 hb_154 hb_155
    obtain ⟨hr_16_0, hr_16_1⟩ := hr_16
    refine j_ldcSw hx hb hown rstr430 dX11_aimAtPlace_20 ?_
    refine va_calli (A0 := jA base) (H0 := s.heap) (va_runV (As := [.int r_16, .ref str430]) (rest := []) ⟨hx, hb, hml, hown, hts⟩ (uX4_member l dC dI ca base B hB hAp hB6 hB140 hB141 hB142 hB143 hB144 hB145 hB146 G0 H_15 json_14 r_16 str430 8) (cwV 2 hts (jgV (jWr_23 _ (List.mem_of_getElem? (i := 10) rfl)) (jWr_23 _ (List.mem_of_getElem? (i := 11) rfl)) (jWr_23 _ (List.mem_of_getElem? (i := 12) rfl)) (jWr_1 _ (List.mem_of_getElem? (i := 22) rfl)) (jWr_23 _ (List.mem_of_getElem? (i := 13) rfl))) rfl rfl rfl (by decide +kernel) ⟨by rw [← hR]; exact Nat.le_of_ble_eq_true rfl, by rw [← hR]; exact Nat.le_of_ble_eq_true rfl⟩) ⟨fun a U g mk q => by obtain ⟨q0, q1, q2, qK, q10, q11, q12, q13⟩ := q; exact ⟨q0, q1, q2, jG.calling g mk a qK, (q10.moved (Vm.Alike.refl U.vm)), q11, q12, q13⟩, hh_15.recv (C := RX4) (T := TX4) (N := 12) hB6 rfl (by decide) hg_json_14 hK, fun U hU hW => ⟨rfl, hU, hh_15.2.1, hG.step hW hU hh_15.1, (hstr430.moved hW.alike).kept hh_15.1.2.1, hg_json_14, jP.nil, by first | omega | rfl | assumption | decide | exact Or.inl rfl | exact Or.inr rfl | (simp only; omega)⟩⟩ rfl rfl hl.1 rfl (lv_room (Nat.le_of_ble_eq_true rfl)) dX11_aimAtPlace_23 ⟨Nat.zero_le _, Nat.zero_le _⟩) hh_15.1 (fun q _ h => h) (fun q h => h) (fun r_18 u_17 t_17 H_17 locs_17 ht_17 hvm_17 hr_18 hb_17 hz_17 hk_17 hS_17 => ?_)
    rw [ht_17] at hb_17
    obtain ⟨hb_171, hb_172, hb_173, hb_174, hb_175⟩ := hb_17
    have hh_17 : jSt (dC, dI) B base G0 G0 EX11_aimAtPlace s.heap 0 0 [(r0, 13, 2, .ref json_14)] [] [(jFl, jLs dC dI ca G0 3 none)] H_17 locs_17 := ((hh_15.call hb_171 hb_172 hb_173 hb_174 hS_17 rfl (L1 := [(r0, 13, 2, .ref json_14)]) [0] rfl rfl (M1 := []) [] rfl rfl (I1 := [(jFl, jLs dC dI ca G0 3 none)]) [0] rfl rfl).more hb_175)
    clear hh_15 ht_17 hvm_17 hz_17 hk_17 hS_17 hb_171 hb_172 hb_173 hb_174 hb_175
    obtain ⟨hr_18_0, hr_18_1⟩ := hr_18
    refine lv_istore_n (lv' := [(3, .int r_18), (2, .ref ret_3), (0, .ref r0), (1, .ref r1)]) hx hb dX11_aimAtPlace_26 rfl hl (by decide) rfl (fun ls hl => ?_)
    refine lv_aload_n hx hb dX11_aimAtPlace_27 rfl (lv_at hl 1 rfl) ?_
    refine lv_ifnonnull (tgt := 35) hx hb dX11_aimAtPlace_28 (by decide) ?_
    refine lv_aload_n hx hb dX11_aimAtPlace_35 rfl (lv_at hl 2 rfl) ?_
    refine lv_iload_n hx hb dX11_aimAtPlace_36 rfl (lv_at hl 0 rfl) ?_
    refine lv_aload_n hx hb dX11_aimAtPlace_37 rfl (lv_at hl 1 rfl) ?_
    refine va_calli (A0 := jA base) (H0 := s.heap) (va_runV (As := [.int r_18, .ref ret_3]) (rest := []) ⟨hx, hb, hml, hown, hts⟩ (uX11_placeTold l dC dI ca base B hB hAp hB3 hB6 hB13 hB101 hB140 hB141 hB142 hB143 hB144 hB145 hB146 G0 H_17 r0 r_18 ret_3 0) (cwV 2 hts (jgV (jWr_28 _ (List.mem_of_getElem? (i := 20) rfl)) (jWr_28 _ (List.mem_of_getElem? (i := 21) rfl)) (jWr_28 _ (List.mem_of_getElem? (i := 22) rfl)) (jWr_1 _ (List.mem_of_getElem? (i := 2) rfl)) (jWr_28 _ (List.mem_of_getElem? (i := 23) rfl))) rfl rfl rfl (by decide +kernel) ⟨by rw [← hR]; exact Nat.le_of_ble_eq_true rfl, by rw [← hR]; exact Nat.le_of_ble_eq_true rfl⟩) ⟨fun a U g mk q => by obtain ⟨q0, q1, q2, qK, q10, q11, q12, q13⟩ := q; exact ⟨q0, q1, q2, jG.calling g mk a qK, q10, q11, q12, q13⟩, hh_17.recv (C := RX11) (T := TX11) (N := 19) hB13 rfl (by decide) hg_r0 hK, fun U hU hW => ⟨rfl, hU, hh_17.2.1, hG.step hW hU hh_17.1, hg_r0, hg_ret_3, jP.nil, trivial⟩⟩ rfl rfl hl.1 rfl (lv_room (Nat.le_of_ble_eq_true rfl)) dX11_aimAtPlace_38 ⟨Nat.zero_le _, Nat.zero_le _⟩) hh_17.1 (fun q _ h => h) (fun q h => h) (fun r_20 u_19 t_19 H_19 locs_19 ht_19 hvm_19 hr_20 hb_19 hz_19 hk_19 hS_19 => ?_)
    rw [ht_19] at hb_19
    obtain ⟨hb_191, hb_192, hb_193, hb_194, hb_195⟩ := hb_19
    have hh_19 : jSt (dC, dI) B base G0 G0 EX11_aimAtPlace s.heap 0 0 [(r0, 13, 2, .ref json_14)] [] [(jFl, jLs dC dI ca G0 3 none)] H_19 locs_19 := ((hh_17.call hb_191 hb_192 hb_193 hb_194 hS_19 rfl (L1 := [(r0, 13, 2, .ref json_14)]) [0] rfl rfl (M1 := []) [] rfl rfl (I1 := [(jFl, jLs dC dI ca G0 3 none)]) [0] rfl rfl).more hb_195)
    clear hh_17 ht_19 hvm_19 hz_19 hk_19 hS_19 hb_191 hb_192 hb_193 hb_194 hb_195
    refine lv_istore (lv' := [(4, .int r_20), (3, .int r_18), (2, .ref ret_3), (0, .ref r0), (1, .ref r1)]) hx hb dX11_aimAtPlace_41 hl (by decide) rfl (fun ls hl => ?_)
    refine lv_iload hx hb dX11_aimAtPlace_43 (lv_at hl 0 rfl) ?_
    refine lv_if_ge (tgt := 50) hx hb dX11_aimAtPlace_45 (by decide) (fun c_21 => ?_) (fun c_21 => ?_)
    · skip
      have c_21' : r_20.toInt ≥ 0 := jb_ge (rfl) ((by decide)) c_21
      refine lv_aload_n hx hb dX11_aimAtPlace_50 rfl (lv_at hl 4 rfl) ?_
      refine lv_aload_n hx hb dX11_aimAtPlace_51 rfl (lv_at hl 2 rfl) ?_
      refine j7_put hx hb hown hK hh_19 hB hAp hB10 (C := RX8) (T := TX8) (N := 5) rfl (by decide) hg_r1 (i := 1) (by decide) hly_10_1 rfl hlk_432 rfl (ty := (.object "ProofServer$Document")) (v := .ref ret_3) (by decide +kernel) rfl rfl (Or.inr ⟨_, rfl, hg_ret_3⟩) rfl (L1 := [(r0, 13, 2, .ref json_14)]) [0] rfl rfl rfl dX11_aimAtPlace_52 (fun H_22 locs_22 hh_22 => ?_)
      clear hh_19
      refine lv_aload_n hx hb dX11_aimAtPlace_55 rfl (lv_at hl 4 rfl) ?_
      refine lv_aload_n hx hb dX11_aimAtPlace_56 rfl (lv_at hl 2 rfl) ?_
      refine lv_iload hx hb dX11_aimAtPlace_57 (lv_at hl 0 rfl) ?_
      refine va_calli (A0 := jA base) (H0 := s.heap) (va_runV (As := [.int r_20]) (rest := [.ref r1]) ⟨hx, hb, hml, hown, hts⟩ (uX1_endedBy l dC dI ca base B hB hAp hB3 hB172 G0 H_22 ret_3 r_20) (cwV 1 hts (jgV (jWr_29 _ (List.mem_of_getElem? (i := 10) rfl)) (jWr_29 _ (List.mem_of_getElem? (i := 11) rfl)) (jWr_29 _ (List.mem_of_getElem? (i := 12) rfl)) (jWr_2 _ (List.mem_of_getElem? (i := 21) rfl)) (jWr_29 _ (List.mem_of_getElem? (i := 13) rfl))) rfl rfl rfl (by decide +kernel) ⟨by rw [← hR]; exact Nat.le_of_ble_eq_true rfl, by rw [← hR]; exact Nat.le_of_ble_eq_true rfl⟩) ⟨fun a U g mk q => by obtain ⟨q0, q1, q2, qK, q10, q11, q12⟩ := q; exact ⟨q0, q1, q2, jG.calling g mk a qK, q10, q11, q12⟩, hh_22.recv (C := RX1) (T := TX1) (N := 17) hB3 rfl (by decide) hg_ret_3 hK, fun U hU hW => ⟨rfl, hU, hh_22.2.1, hG.step hW hU hh_22.1, hg_ret_3, jP.nil, trivial⟩⟩ rfl rfl hl.1 rfl (lv_room (Nat.le_of_ble_eq_true rfl)) dX11_aimAtPlace_59 ⟨Nat.zero_le _, Nat.zero_le _⟩) hh_22.1 (fun q _ h => h) (fun q h => h) (fun r_24 u_23 t_23 H_23 locs_23 ht_23 hvm_23 hr_24 hb_23 hz_23 hk_23 hS_23 => ?_)
      rw [ht_23] at hb_23
      obtain ⟨hb_231, hb_232, hb_233, hb_234, hb_235⟩ := hb_23
      have hh_23 : jSt (dC, dI) B base G0 G0 EX11_aimAtPlace s.heap 0 0 [(r1, 10, 1, .ref ret_3), (r0, 13, 2, .ref json_14)] [] [(jFl, jLs dC dI ca G0 3 none)] H_23 locs_23 := ((hh_22.call hb_231 hb_232 hb_233 hb_234 hS_23 rfl (L1 := [(r1, 10, 1, .ref ret_3), (r0, 13, 2, .ref json_14)]) [0, 1] rfl rfl (M1 := []) [] rfl rfl (I1 := [(jFl, jLs dC dI ca G0 3 none)]) [0] rfl rfl).more hb_235)
      clear hh_22 ht_23 hvm_23 hz_23 hk_23 hS_23 hb_231 hb_232 hb_233 hb_234 hb_235
      obtain ⟨hr_24_0, hr_24_1⟩ := hr_24
      refine j7_put hx hb hown hK hh_23 hB hAp hB10 (C := RX8) (T := TX8) (N := 5) rfl (by decide) hg_r1 (i := 2) (by decide) hly_10_2 rfl hlk_438 rfl (ty := .int) (v := .int r_24) (by decide +kernel) rfl rfl (⟨_, rfl⟩) rfl (L1 := [(r1, 10, 1, .ref ret_3), (r0, 13, 2, .ref json_14)]) [0, 1] rfl rfl rfl dX11_aimAtPlace_62 (fun H_25 locs_25 hh_25 => ?_)
      clear hh_23
      refine lv_iconst (v := 1) hx hb dX11_aimAtPlace_65 (by decide) ?_
      rw [hQ]
      exact W.zret (v := 1) hx hb hr (jb_nz (Or.inr rfl)) (fun t ht hW => ⟨⟨1, (), rfl, ⟨(Or.inr rfl), trivial⟩, ⟨hh_25.rt (M1 := []) [] rfl ht, by rw [ht]; exact hh_25.2.2.2.2.2.2.2.2.sub (L1 := [(jFl, jLs dC dI ca G0 3 none)]) [0] rfl⟩⟩, by rw [ht]; try exact hh_25.1.1, fun q h9 hq => by rw [ht]; try exact hh_25.1.2.1 q h9 hq⟩) hh_25.1.2.2 dX11_aimAtPlace_66
    · skip
      have c_21' : r_20.toInt < 0 := jb_ge_n (rfl) ((by decide)) c_21
      refine lv_iconst (v := 0) hx hb dX11_aimAtPlace_48 (by decide) ?_
      rw [hQ]
      exact W.zret (v := 0) hx hb hr (jb_nz (Or.inl rfl)) (fun t ht hW => ⟨⟨0, (), rfl, ⟨(Or.inl rfl), trivial⟩, ⟨hh_19.rt (M1 := []) [] rfl ht, by rw [ht]; exact hh_19.2.2.2.2.2.2.2.2.sub (L1 := [(jFl, jLs dC dI ca G0 3 none)]) [0] rfl⟩⟩, by rw [ht]; try exact hh_19.1.1, fun q h9 hq => by rw [ht]; try exact hh_19.1.2.1 q h9 hq⟩) hh_19.1.2.2 dX11_aimAtPlace_49
end
section
-- what reading JSON leaves: the strings and keys of the values stand apart among the units, and take bytes
theorem jDjn.sy {D : jC} {e e' : Nat} (h : jDjn D e e') : jDjn D e' e := by
  unfold jDjn at h ⊢
  omega
/-- the first and the size of a value that is no string are written -/
theorem jJr.fz {C D D' : jC} {pv pu qv qu h : Int} (g : jJr C pv pu D qv qu) (hp : pv ≤ h) (hk : jSo D.1 h ≠ 3) (ho : ∀ i : Int, 0 ≤ i → i < qv → i ≠ h → jE5 D D' i) (h1 : jSo D'.1 h = jSo D.1 h) (h2 : jSo D'.2.2.2.1 h = jSo D.2.2.2.1 h) (h3 : jSo D'.2.2.2.2 h = jSo D.2.2.2.2 h) : jJr C pv pu D' qv qu := by
  obtain ⟨g1, g2, g3, g4⟩ := g
  have kl : ∀ e : Nat, (e : Int) < 2 * qv → jln D' e = jln D e ∧ jlo D' e = jlo D e := fun e he => by
    by_cases q : ((e / 2 : Nat) : Int) = h
    · unfold jln jlo
      rw [q, h1, h3, h2]
      by_cases q2 : e % 2 = 0
      · rw [if_pos q2, if_pos q2, if_pos q2, if_pos q2, if_neg hk, if_neg hk, if_neg hk, if_neg hk]
        exact ⟨rfl, rfl⟩
      · rw [if_neg q2, if_neg q2, if_neg q2, if_neg q2]
        exact ⟨rfl, rfl⟩
    · have := ho _ (by omega) (by omega) q
      exact ⟨this.ln, this.lo⟩
  refine ⟨g1, fun i a b => ?_, fun e a b => ?_, fun e e' a b c d ne => ?_⟩
  · obtain ⟨x1, x2, x3, x4, x5⟩ := g2 i a b
    obtain ⟨y1, y2, y3, y4, y5⟩ := ho i a (by omega) (by omega)
    exact ⟨y1.trans x1, y2.trans x2, y3.trans x3, y4.trans x4, y5.trans x5⟩
  · have x := kl e b
    have y := g3 e a b
    omega
  · have x := kl e b
    have x' := kl e' d
    have y := g4 e e' a b c d ne
    unfold jDjn at y ⊢
    omega
/-- the key of a value that was read behind it -/
theorem jJr.key {C D E E' : jC} {pv pu wv wu u1 qv qu r : Int} (h : jJr C pv pu D wv wu) (hu : wu ≤ u1) (g : jJr D wv u1 E qv qu) (hr : wv ≤ r) (ho : ∀ i : Int, 0 ≤ i → i < qv → i ≠ r → jE5 E E' i) (h1 : jSo E'.1 r = jSo E.1 r) (h2 : jSo E'.2.1 r = jSo E.2.1 r) (h3 : jSo E'.2.2.1 r = jSo E.2.2.1 r) (h4 : jSo E'.2.2.2.1 r = wu) (h5 : jSo E'.2.2.2.2 r = u1 - wu) : jJr C pv pu E' qv qu := by
  have t := (h.up hu).tr g
  obtain ⟨t1, t2, t3, t4⟩ := t
  obtain ⟨a1, a2, a3, a4⟩ := h
  obtain ⟨b1, b2, b3, b4⟩ := g
  have kl : ∀ e : Nat, (e : Int) < 2 * qv → (e : Int) ≠ 2 * r + 1 → jln E' e = jln E e ∧ jlo E' e = jlo E e := fun e he hn => by
    by_cases q : ((e / 2 : Nat) : Int) = r
    · have q2 : e % 2 = 0 := by omega
      unfold jln jlo
      rw [q, h1, h2, h3, if_pos q2, if_pos q2, if_pos q2, if_pos q2]
      exact ⟨rfl, rfl⟩
    · have := ho _ (by omega) (by omega) q
      exact ⟨this.ln, this.lo⟩
  have kr : ∀ e : Nat, (e : Int) = 2 * r + 1 → jln E' e = u1 - wu ∧ jlo E' e = wu := fun e he => by
    unfold jln jlo
    rw [if_neg (by omega), if_neg (by omega), show ((e / 2 : Nat) : Int) = r by omega]
    exact ⟨h5, h4⟩
  have kd : ∀ e e' : Nat, (e : Int) = 2 * r + 1 → 2 * pv ≤ e' → (e' : Int) < 2 * qv → e ≠ e' → jDjn E' e e' := fun e e' he c d ne => by
    obtain ⟨x1, x2⟩ := kr e he
    obtain ⟨y1, y2⟩ := kl e' d (by omega)
    unfold jDjn
    by_cases q : (e' : Int) < 2 * wv
    · have z := b2 ((e' / 2 : Nat) : Int) (by omega) (by omega)
      have w := a3 e' c q
      rw [y1, y2, z.ln, z.lo]
      omega
    · have w := b3 e' (by omega) d
      omega
  refine ⟨t1, fun i a b => ?_, fun e a b => ?_, fun e e' a b c d ne => ?_⟩
  · obtain ⟨x1, x2, x3, x4, x5⟩ := t2 i a b
    obtain ⟨y1, y2, y3, y4, y5⟩ := ho i a (by omega) (by omega)
    exact ⟨y1.trans x1, y2.trans x2, y3.trans x3, y4.trans x4, y5.trans x5⟩
  · by_cases q : (e : Int) = 2 * r + 1
    · obtain ⟨x1, x2⟩ := kr e q
      omega
    · obtain ⟨x1, x2⟩ := kl e b q
      have := t3 e a b
      omega
  · by_cases q : (e : Int) = 2 * r + 1
    · exact kd e e' q c d ne
    · by_cases q' : (e' : Int) = 2 * r + 1
      · exact (kd e' e q' a b (fun x => ne x.symm)).sy
      · obtain ⟨x1, x2⟩ := kl e b q
        obtain ⟨y1, y2⟩ := kl e' d q'
        have := t4 e e' a b c d ne
        unfold jDjn at this ⊢
        omega
theorem jVr.no {C : jC} {pv pu pt qu qt r : Int} (h0 : 0 ≤ pv) (h1 : 0 ≤ pu) (hu : pu ≤ qu) (hr : r < 0) : jVr C pv pu pt C pv qu qt r := ⟨(jJr.rf h0 h1).up hu, Or.inl hr⟩
theorem jHv.add {C D : jC} {pv pu pt wv wu wt l x wu' wt' x' : Int} (h : jHv C pv pu pt D wv wu wt l x) (ha : wu' - wu + x' - x ≤ wt' - wt) : jHv C pv pu pt D wv wu' wt' l x' := by
  rcases h with h | ⟨h1, h2, h3, h4, h5⟩
  · exact Or.inl h
  · exact Or.inr ⟨h1, h2, h3, h4, by omega⟩
theorem jHs {C D E : jC} {k1 i1 z1 a1 s1 : Nat → Int32} {pv pu pt wv w0 u1 t2 l x qv qu qt r t : Int} (h1 : jJr C pv pu D wv w0) (h2 : jHv C pv pu pt D wv u1 t2 l x) (hu : w0 ≤ u1) (hx : x = 3 ∨ (x = 0 ∧ u1 = w0)) (g : jVr D wv u1 t2 E qv qu qt r) (hr : 0 ≤ r) (hl : 0 ≤ l) (hq : qv ≤ 1502)
    (hk : k1 = E.1) (ha : jSo a1 r = w0) (hao : ∀ j, j < 1502 → j ≠ r.toNat → a1 j = E.2.2.2.1 j) (hs : jSo s1 r = u1 - w0) (hso : ∀ j, j < 1502 → j ≠ r.toNat → s1 j = E.2.2.2.2 j)
    (hio : ∀ j, j < 1502 → j ≠ l.toNat → i1 j = E.2.1 j) (hzo : ∀ j, j < 1502 → j ≠ l.toNat → z1 j = E.2.2.1 j) (ht : qt + 1 ≤ t) : jJr C pv pu (k1, i1, z1, a1, s1) qv qu ∧ jHv C pv pu pt (k1, i1, z1, a1, s1) qv qu t l 0 := by
  obtain ⟨g1, g2⟩ := g
  rcases g2 with g2 | ⟨r1, r2, r3, r4⟩
  · omega
  rcases h2 with h2 | ⟨b1, b2, b3, b4, b5⟩
  · omega
  rw [b1] at hio hzo
  have p0 := h1.1
  have w1 := g1.1
  have k5 := g1.2.1 pv (by omega) b2
  have m1 : jJr C pv pu (E.1, E.2.1, E.2.2.1, a1, s1) qv qu := jJr.key h1 hu g1 r1 (fun i i0 i1 ne => ⟨rfl, rfl, rfl, jst hao i i0 (by omega) hr ne, jst hso i i0 (by omega) hr ne⟩) rfl rfl rfl ha hs
  have m2 : jJr C pv pu (k1, i1, z1, a1, s1) qv qu := jJr.fz (h := pv) m1 (Int.le_refl _) (by show jSo E.1 pv ≠ 3; rw [k5.1]; exact b3) (fun i i0 _ ne => ⟨by show jSo k1 i = jSo E.1 i; rw [hk], jst hio i i0 (by omega) (by omega) ne, jst hzo i i0 (by omega) (by omega) ne, rfl, rfl⟩) (by show jSo k1 pv = jSo E.1 pv; rw [hk]) rfl rfl
  refine ⟨m2, Or.inr ⟨b1, by omega, by show jSo k1 pv ≠ 3; rw [hk, k5.1]; exact b3, ?_, ?_⟩⟩
  · show jSo s1 pv = 0
    rw [jst hso pv (by omega) (by omega) hr (by omega), k5.2.2.2.2]
    exact b4
  · have s2 := jSb.put (f := E.2.2.2.2) (g := s1) r.toNat 1502 hso (by have := r3; unfold jSo at this; exact this) qv.toNat (by omega)
    have s3 : (s1 r.toNat).toInt = u1 - w0 := by have := hs; unfold jSo at this; exact this
    rw [s3] at s2
    show qu - pu + 0 + (jSb s1 qv.toNat - jSb C.2.2.2.2 pv.toNat) ≤ t - pt + 1
    rcases hx with hx | ⟨hx, hy⟩
    · by_cases q : 1 ≤ u1 - w0 ∧ r.toNat < qv.toNat
      · rw [if_pos q] at s2; omega
      · rw [if_neg q] at s2; omega
    · rw [if_neg (by omega : ¬ (1 ≤ u1 - w0 ∧ r.toNat < qv.toNat))] at s2
      omega
theorem jHv.end {C F : jC} {pv pu pt qv qu t l : Int} (h : jJr C pv pu F qv qu ∧ jHv C pv pu pt F qv qu t l 0) : jVr C pv pu pt F qv qu t l := by
  obtain ⟨h1, h2⟩ := h
  refine ⟨h1, ?_⟩
  rcases h2 with h2 | ⟨b1, b2, b3, b4, b5⟩
  · exact Or.inl h2
  · exact Or.inr ⟨by omega, by omega, by rw [b1]; exact b4, by omega⟩
theorem jVr.base {C D : jC} {a b pt qv qu qt r : Int} (h : jVr C a b pt D qv qu qt r) (ha : a = 0) (hb : b = 0) : jJr C 0 0 D qv qu := by
  subst ha hb
  exact h.1
/-- a string of the values -/
theorem jJr.p {C D : jC} {qv qu : Int} (h : jJr C 0 0 D qv qu) (hq : qu ≤ 3000) : jJq D.1 D.2.1 D.2.2.1 qv := fun i h0 h1 h3 => by
  have := h.2.2.1 (2 * i.toNat) (by omega) (by omega)
  have e : (((2 * i.toNat) / 2 : Nat) : Int) = i := by omega
  have n1 : jln D (2 * i.toNat) = jSo D.2.2.1 i := by
    unfold jln
    rw [if_pos (by omega), e, if_pos h3]
  have n2 : jlo D (2 * i.toNat) = jSo D.2.1 i := by
    unfold jlo
    rw [if_pos (by omega), e, if_pos h3]
  omega
theorem jJr.u {C D : jC} {qv qu : Int} (h : jJr C 0 0 D qv qu) : jJu D.1 D.2.2.1 qv qu := fun i h0 h1 h3 => by
  have := h.2.2.1 (2 * i.toNat) (by omega) (by omega)
  have e : (((2 * i.toNat) / 2 : Nat) : Int) = i := by omega
  have n1 : jln D (2 * i.toNat) = jSo D.2.2.1 i := by
    unfold jln
    rw [if_pos (by omega), e, if_pos h3]
  omega
end
