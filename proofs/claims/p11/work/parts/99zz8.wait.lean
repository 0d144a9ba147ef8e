theorem dX11_answerOrWait_0 : decode cX11_answerOrWait 0 = .ok (.iload_n 2, 1) := by decide +kernel
theorem dX11_answerOrWait_1 : decode cX11_answerOrWait 1 = .ok (.ifCond .ne 14, 3) := by decide +kernel
theorem dX11_answerOrWait_4 : decode cX11_answerOrWait 4 = .ok (.aload_n 0, 1) := by decide +kernel
theorem dX11_answerOrWait_5 : decode cX11_answerOrWait 5 = .ok (.aload_n 1, 1) := by decide +kernel
theorem dX11_answerOrWait_6 : decode cX11_answerOrWait 6 = .ok (.sipush (-32602), 3) := by decide +kernel
theorem dX11_answerOrWait_9 : decode cX11_answerOrWait 9 = .ok (.invokevirtual 267, 3) := by decide +kernel
theorem dX11_answerOrWait_12 : decode cX11_answerOrWait 12 = .ok (.goto 54, 3) := by decide +kernel
theorem dX11_answerOrWait_15 : decode cX11_answerOrWait 15 = .ok (.aload_n 1, 1) := by decide +kernel
theorem dX11_answerOrWait_16 : decode cX11_answerOrWait 16 = .ok (.invokevirtual 453, 3) := by decide +kernel
theorem dX11_answerOrWait_19 : decode cX11_answerOrWait 19 = .ok (.ifCond .eq 11, 3) := by decide +kernel
theorem dX11_answerOrWait_22 : decode cX11_answerOrWait 22 = .ok (.aload_n 0, 1) := by decide +kernel
theorem dX11_answerOrWait_23 : decode cX11_answerOrWait 23 = .ok (.aload_n 1, 1) := by decide +kernel
theorem dX11_answerOrWait_24 : decode cX11_answerOrWait 24 = .ok (.invokevirtual 456, 3) := by decide +kernel
theorem dX11_answerOrWait_27 : decode cX11_answerOrWait 27 = .ok (.goto 39, 3) := by decide +kernel
theorem dX11_answerOrWait_30 : decode cX11_answerOrWait 30 = .ok (.aload_n 0, 1) := by decide +kernel
theorem dX11_answerOrWait_31 : decode cX11_answerOrWait 31 = .ok (.getfield 65, 3) := by decide +kernel
theorem dX11_answerOrWait_34 : decode cX11_answerOrWait 34 = .ok (.invokeinterface 142 1, 5) := by decide +kernel
theorem dX11_answerOrWait_39 : decode cX11_answerOrWait 39 = .ok (.bipush 12, 2) := by decide +kernel
theorem dX11_answerOrWait_41 : decode cX11_answerOrWait 41 = .ok (.if_icmp .ge 17, 3) := by decide +kernel
theorem dX11_answerOrWait_44 : decode cX11_answerOrWait 44 = .ok (.aload_n 0, 1) := by decide +kernel
theorem dX11_answerOrWait_45 : decode cX11_answerOrWait 45 = .ok (.getfield 65, 3) := by decide +kernel
theorem dX11_answerOrWait_48 : decode cX11_answerOrWait 48 = .ok (.aload_n 1, 1) := by decide +kernel
theorem dX11_answerOrWait_49 : decode cX11_answerOrWait 49 = .ok (.invokeinterface 374 2, 5) := by decide +kernel
theorem dX11_answerOrWait_54 : decode cX11_answerOrWait 54 = .ok (.pop, 1) := by decide +kernel
theorem dX11_answerOrWait_55 : decode cX11_answerOrWait 55 = .ok (.goto 11, 3) := by decide +kernel
theorem dX11_answerOrWait_58 : decode cX11_answerOrWait 58 = .ok (.aload_n 0, 1) := by decide +kernel
theorem dX11_answerOrWait_59 : decode cX11_answerOrWait 59 = .ok (.aload_n 1, 1) := by decide +kernel
theorem dX11_answerOrWait_60 : decode cX11_answerOrWait 60 = .ok (.sipush (-32600), 3) := by decide +kernel
theorem dX11_answerOrWait_63 : decode cX11_answerOrWait 63 = .ok (.invokevirtual 267, 3) := by decide +kernel
theorem dX11_answerOrWait_66 : decode cX11_answerOrWait 66 = .ok (.return_, 1) := by decide +kernel
theorem dX11_dismiss_0 : decode cX11_dismiss 0 = .ok (.iconst 0, 1) := by decide +kernel
theorem dX11_dismiss_1 : decode cX11_dismiss 1 = .ok (.istore_n 2, 1) := by decide +kernel
theorem dX11_dismiss_2 : decode cX11_dismiss 2 = .ok (.iconst 0, 1) := by decide +kernel
theorem dX11_dismiss_3 : decode cX11_dismiss 3 = .ok (.istore_n 3, 1) := by decide +kernel
theorem dX11_dismiss_4 : decode cX11_dismiss 4 = .ok (.iload_n 3, 1) := by decide +kernel
theorem dX11_dismiss_5 : decode cX11_dismiss 5 = .ok (.bipush 12, 2) := by decide +kernel
theorem dX11_dismiss_7 : decode cX11_dismiss 7 = .ok (.if_icmp .ge 68, 3) := by decide +kernel
theorem dX11_dismiss_10 : decode cX11_dismiss 10 = .ok (.iload_n 2, 1) := by decide +kernel
theorem dX11_dismiss_11 : decode cX11_dismiss 11 = .ok (.aload_n 0, 1) := by decide +kernel
theorem dX11_dismiss_12 : decode cX11_dismiss 12 = .ok (.getfield 65, 3) := by decide +kernel
theorem dX11_dismiss_15 : decode cX11_dismiss 15 = .ok (.invokeinterface 142 1, 5) := by decide +kernel
theorem dX11_dismiss_20 : decode cX11_dismiss 20 = .ok (.if_icmp .ge 55, 3) := by decide +kernel
theorem dX11_dismiss_23 : decode cX11_dismiss 23 = .ok (.aload_n 0, 1) := by decide +kernel
theorem dX11_dismiss_24 : decode cX11_dismiss 24 = .ok (.getfield 65, 3) := by decide +kernel
theorem dX11_dismiss_27 : decode cX11_dismiss 27 = .ok (.iload_n 2, 1) := by decide +kernel
theorem dX11_dismiss_28 : decode cX11_dismiss 28 = .ok (.invokeinterface 249 2, 5) := by decide +kernel
theorem dX11_dismiss_33 : decode cX11_dismiss 33 = .ok (.checkcast 115, 3) := by decide +kernel
theorem dX11_dismiss_36 : decode cX11_dismiss 36 = .ok (.getfield 432, 3) := by decide +kernel
theorem dX11_dismiss_39 : decode cX11_dismiss 39 = .ok (.aload_n 1, 1) := by decide +kernel
theorem dX11_dismiss_40 : decode cX11_dismiss 40 = .ok (.if_acmp .ne 26, 3) := by decide +kernel
theorem dX11_dismiss_43 : decode cX11_dismiss 43 = .ok (.aload_n 0, 1) := by decide +kernel
theorem dX11_dismiss_44 : decode cX11_dismiss 44 = .ok (.aload_n 0, 1) := by decide +kernel
theorem dX11_dismiss_45 : decode cX11_dismiss 45 = .ok (.getfield 65, 3) := by decide +kernel
theorem dX11_dismiss_48 : decode cX11_dismiss 48 = .ok (.iload_n 2, 1) := by decide +kernel
theorem dX11_dismiss_49 : decode cX11_dismiss 49 = .ok (.invokeinterface 423 2, 5) := by decide +kernel
theorem dX11_dismiss_54 : decode cX11_dismiss 54 = .ok (.checkcast 115, 3) := by decide +kernel
theorem dX11_dismiss_57 : decode cX11_dismiss 57 = .ok (.ldc_w 459, 3) := by decide +kernel
theorem dX11_dismiss_60 : decode cX11_dismiss 60 = .ok (.invokevirtual 267, 3) := by decide +kernel
theorem dX11_dismiss_63 : decode cX11_dismiss 63 = .ok (.goto 6, 3) := by decide +kernel
theorem dX11_dismiss_66 : decode cX11_dismiss 66 = .ok (.iinc 2 1, 3) := by decide +kernel
theorem dX11_dismiss_69 : decode cX11_dismiss 69 = .ok (.iinc 3 1, 3) := by decide +kernel
theorem dX11_dismiss_72 : decode cX11_dismiss 72 = .ok (.goto (-68), 3) := by decide +kernel
theorem dX11_dismiss_75 : decode cX11_dismiss 75 = .ok (.return_, 1) := by decide +kernel
theorem dX11_answerReady_0 : decode cX11_answerReady 0 = .ok (.iconst 0, 1) := by decide +kernel
theorem dX11_answerReady_1 : decode cX11_answerReady 1 = .ok (.istore_n 1, 1) := by decide +kernel
theorem dX11_answerReady_2 : decode cX11_answerReady 2 = .ok (.iconst 0, 1) := by decide +kernel
theorem dX11_answerReady_3 : decode cX11_answerReady 3 = .ok (.istore_n 2, 1) := by decide +kernel
theorem dX11_answerReady_4 : decode cX11_answerReady 4 = .ok (.iload_n 2, 1) := by decide +kernel
theorem dX11_answerReady_5 : decode cX11_answerReady 5 = .ok (.bipush 12, 2) := by decide +kernel
theorem dX11_answerReady_7 : decode cX11_answerReady 7 = .ok (.if_icmp .ge 64, 3) := by decide +kernel
theorem dX11_answerReady_10 : decode cX11_answerReady 10 = .ok (.iload_n 1, 1) := by decide +kernel
theorem dX11_answerReady_11 : decode cX11_answerReady 11 = .ok (.aload_n 0, 1) := by decide +kernel
theorem dX11_answerReady_12 : decode cX11_answerReady 12 = .ok (.getfield 65, 3) := by decide +kernel
theorem dX11_answerReady_15 : decode cX11_answerReady 15 = .ok (.invokeinterface 142 1, 5) := by decide +kernel
theorem dX11_answerReady_20 : decode cX11_answerReady 20 = .ok (.if_icmp .ge 51, 3) := by decide +kernel
theorem dX11_answerReady_23 : decode cX11_answerReady 23 = .ok (.aload_n 0, 1) := by decide +kernel
theorem dX11_answerReady_24 : decode cX11_answerReady 24 = .ok (.getfield 65, 3) := by decide +kernel
theorem dX11_answerReady_27 : decode cX11_answerReady 27 = .ok (.iload_n 1, 1) := by decide +kernel
theorem dX11_answerReady_28 : decode cX11_answerReady 28 = .ok (.invokeinterface 249 2, 5) := by decide +kernel
theorem dX11_answerReady_33 : decode cX11_answerReady 33 = .ok (.checkcast 115, 3) := by decide +kernel
theorem dX11_answerReady_36 : decode cX11_answerReady 36 = .ok (.invokevirtual 453, 3) := by decide +kernel
theorem dX11_answerReady_39 : decode cX11_answerReady 39 = .ok (.ifCond .eq 23, 3) := by decide +kernel
theorem dX11_answerReady_42 : decode cX11_answerReady 42 = .ok (.aload_n 0, 1) := by decide +kernel
theorem dX11_answerReady_43 : decode cX11_answerReady 43 = .ok (.aload_n 0, 1) := by decide +kernel
theorem dX11_answerReady_44 : decode cX11_answerReady 44 = .ok (.getfield 65, 3) := by decide +kernel
theorem dX11_answerReady_47 : decode cX11_answerReady 47 = .ok (.iload_n 1, 1) := by decide +kernel
theorem dX11_answerReady_48 : decode cX11_answerReady 48 = .ok (.invokeinterface 423 2, 5) := by decide +kernel
theorem dX11_answerReady_53 : decode cX11_answerReady 53 = .ok (.checkcast 115, 3) := by decide +kernel
theorem dX11_answerReady_56 : decode cX11_answerReady 56 = .ok (.invokevirtual 456, 3) := by decide +kernel
theorem dX11_answerReady_59 : decode cX11_answerReady 59 = .ok (.goto 6, 3) := by decide +kernel
theorem dX11_answerReady_62 : decode cX11_answerReady 62 = .ok (.iinc 1 1, 3) := by decide +kernel
theorem dX11_answerReady_65 : decode cX11_answerReady 65 = .ok (.iinc 2 1, 3) := by decide +kernel
theorem dX11_answerReady_68 : decode cX11_answerReady 68 = .ok (.goto (-64), 3) := by decide +kernel
theorem dX11_answerReady_71 : decode cX11_answerReady 71 = .ok (.return_, 1) := by decide +kernel
def EX11_answerReady : List (Nat × Nat) := [(1, 0), (1, 2), (2, 0), (2, 1), (9, 2), (13, 14), (196, 0), (221, 0), (222, 0), (223, 0), (286, 0), (287, 0), (288, 0)]
def EX11_dismiss : List (Nat × Nat) := [(1, 0), (1, 2), (2, 0), (2, 1), (13, 14), (196, 0), (221, 0), (222, 0), (223, 0)]
def EX11_answerOrWait : List (Nat × Nat) := [(1, 0), (1, 1), (1, 2), (2, 0), (2, 1), (9, 2), (13, 14), (196, 0), (221, 0), (222, 0), (223, 0), (286, 0), (287, 0), (288, 0)]
set_option maxHeartbeats 4000000 in
set_option maxRecDepth 20000 in
theorem uX11_answerReady (l : Launch) (dC : Nat → ClassId) (dI : Nat → Nat → Nat) (ca : Nat → ClassId) (base : Nat) (B : jF) (hB : jBok B) (hAp : jAp (dC, dI)) (hB1 : ∀ n G a H, B 1 n G a H ↔ jOb (dC, dI) 1 3 (F1 n G) a H) (hB2 : ∀ n G a H, B 2 n G a H ↔ jOb (dC, dI) 2 2 (F2 n G) a H) (hB3 : ∀ n G a H, B 3 n G a H ↔ jOb (dC, dI) 3 17 (F3 n G) a H) (hB4 : ∀ n G a H, B 4 n G a H ↔ jOb (dC, dI) 4 12 (F4 n G) a H) (hB5 : ∀ n G a H, B 5 n G a H ↔ jOb (dC, dI) 5 4 (F5 n G) a H) (hB7 : ∀ n G a H, B 7 n G a H ↔ jOb (dC, dI) 7 11 (F7 n G) a H) (hB8 : ∀ n G a H, B 8 n G a H ↔ jOb (dC, dI) 8 4 (F8 n G) a H) (hB9 : ∀ n G a H, B 9 n G a H ↔ jOb (dC, dI) 9 5 (F9b n G) a H) (hB10 : ∀ n G a H, B 10 n G a H ↔ jOb (dC, dI) 10 5 (F10 n G) a H) (hB11 : ∀ n G a H, B 11 n G a H ↔ jOb (dC, dI) 11 9 (F11 n G) a H) (hB13 : ∀ n G a H, B 13 n G a H ↔ jOb (dC, dI) 13 19 (F13 n G) a H) (hB101 : ∀ n G a H, B 101 n G a H ↔ jAr (dC, dI) (ca 1) (fun j z => True) n a H) (hB102 : ∀ n G a H, B 102 n G a H ↔ jAl (dC, dI) (ca 2) n a H) (hB132 : ∀ n G a H, B 132 n G a H ↔ jAr (dC, dI) (ca 1) (fun j z => 0 ≤ z.toInt ∧ z.toInt ≤ 10) n a H) (hB196 : ∀ n G a H, B 196 n G a H ↔ jAr (dC, dI) (ca 0) (fun j z => jBf j z) n a H) (hB210 : ∀ n G a H, B 210 n G a H ↔ jAq (dC, dI) (ca 6) (jQn 11 0) n G a H) (hB214 : ∀ n G a H, B 214 n G a H ↔ jAq (dC, dI) (ca 7) (jQg) n G a H) (hB222 : ∀ n G a H, B 222 n G a H ↔ jAq (dC, dI) (ca 9) (jQn 10 0) n G a H) (hB280 : ∀ n G a H, B 280 n G a H ↔ jAr (dC, dI) (ca 1) (fun j z => -1 ≤ z.toInt) n a H) (hB286 : ∀ n G a H, B 286 n G a H ↔ jAr (dC, dI) (ca 1) (fun j z => (0 ≤ z.toInt ∨ z.toInt = -3)) n a H) (hB287 : ∀ n G a H, B 287 n G a H ↔ jAr (dC, dI) (ca 1) (fun j z => 0 ≤ z.toInt ∧ z.toInt ≤ 65535) n a H) (hB288 : ∀ n G a H, B 288 n G a H ↔ jAr (dC, dI) (ca 1) (fun j z => 0 ≤ z.toInt ∧ z.toInt ≤ 160) n a H) (hB313 : ∀ n G a H, B 313 n G a H ↔ jAq (dC, dI) (ca 8) (jQk 280 80) n G a H) (G0 : jT) (H0 : Heap) (r0 : Nat) (bo : Nat) (pc : Int32) (pa : Nat) (n_pa : Nat) (ou : Nat) (LC LS : Nat) : Met l yX11_answerReady (jw yX11_answerReady cX11_answerReady 3 none) ({ frames := 8, cells := LC - H0.size, slots := LS - jTot H0, locals := 241 }) (va_Pc [.ref r0] (fun U => U.heap = H0 ∧ jX B base G0 [] H0 ∧ jG dC dI ca base U ∧ jK2 dC dI ca U ∧ jK5 dC dI ca U ∧ jK7 dC dI ca base U ∧ G0 r0 = some (13, 0) ∧ G0 bo = some (2, 0) ∧ G0 pa = some (196, n_pa) ∧ G0 ou = some (2, 20000) ∧ jP (dC, dI) G0 H0 [(r0, 13, 4, .ref bo), (bo, 2, 1, .int pc), (bo, 2, 0, .ref pa), (r0, 13, 3, .ref ou)] ∧ jIs (dC, dI) G0 H0 [(jFy, jYb dC dI G0), (jFs11, jSef dC dI G0), (jFl, jLs dC dI ca G0 3 none)] ∧ H0.size + (1048576 - n_pa) / 16 + 1 ≤ LC ∧ jTot H0 + 2 * (1048576 - n_pa) ≤ LS ∧ 0 ≤ pc.toInt ∧ pc.toInt ≤ n_pa ∧ 16 ≤ n_pa ∧ n_pa ≤ 1048576 ∧ jPw n_pa)) (va_Qv (S := Int32 × Nat × Nat × jT) (fun u => 0 ≤ u.1.toInt ∧ u.1.toInt ≤ u.2.2.1 ∧ n_pa ≤ u.2.2.1 ∧ u.2.2.1 ≤ 1048576 ∧ jPw u.2.2.1) (fun u t => jRa (dC, dI) B base G0 u.2.2.2 EX11_answerReady H0 ((u.2.2.1 - n_pa) / 16) (2 * (u.2.2.1 - n_pa)) [(bo, 2, 1, .int u.1), (bo, 2, 0, .ref u.2.1)] t.heap ∧ u.2.2.2 u.2.1 = some (196, u.2.2.1) ∧ (jNk [0, 1, 2, 3, 4, 5, 6, 7, 8, 9, 10, 11, 12, 13, 14, 15, 16]) G0 u.2.2.2 ∧ jOl (dC, dI) G0 2 [bo, ou] H0 t.heap ∧ jIs (dC, dI) u.2.2.2 t.heap [(jFy, jYb dC dI u.2.2.2), (jFs11, jSef dC dI u.2.2.2), (jFl, jLs dC dI ca u.2.2.2 3 none)]) (jA base)) (LC - H0.size) (LS - jTot H0) (jA base) := by
  refine Met.ofW (cc := cX11_answerReady) (maxL := 3) (ret := none) (by decide) rfl ?_
  intro p e s m args below meth c s₁ Bd hml hv
  obtain ⟨rfl, hH0, hX, hG, hK2, hK5, hK7, hg_r0, hg_bo, hg_pa, hg_ou, hP0, hI0, hLC0, hLS0, hp0, hp1, hp2, hp3, hp4⟩ := hv
  have hK := hG.1
  have hx := Bd.exec
  have hb := Bd.bytes
  have hr := Bd.returns
  have hts := atoms_spec (ws := (jw yX11_answerReady cX11_answerReady 3 none)) Bd.pre
  have htw : ∀ w ∈ jWl, w.before _ s = true := fun w h => hts w (List.mem_cons_of_mem _ h)
  have hown : s.vm.findClass RX11 = some m.cls := findClass_of_methodNamed Bd.named
  have hlocks := Bd.notSynchronized
  obtain ⟨Q, hQ⟩ : ∃ Q, Q = MQ below (va_Qv (S := Int32 × Nat × Nat × jT) (fun u => 0 ≤ u.1.toInt ∧ u.1.toInt ≤ u.2.2.1 ∧ n_pa ≤ u.2.2.1 ∧ u.2.2.1 ≤ 1048576 ∧ jPw u.2.2.1) (fun u t => jRa (dC, dI) B base G0 u.2.2.2 EX11_answerReady H0 ((u.2.2.1 - n_pa) / 16) (2 * (u.2.2.1 - n_pa)) [(bo, 2, 1, .int u.1), (bo, 2, 0, .ref u.2.1)] t.heap ∧ u.2.2.2 u.2.1 = some (196, u.2.2.1) ∧ (jNk [0, 1, 2, 3, 4, 5, 6, 7, 8, 9, 10, 11, 12, 13, 14, 15, 16]) G0 u.2.2.2 ∧ jOl (dC, dI) G0 2 [bo, ou] H0 t.heap ∧ jIs (dC, dI) u.2.2.2 t.heap [(jFy, jYb dC dI u.2.2.2), (jFs11, jSef dC dI u.2.2.2), (jFl, jLs dC dI ca u.2.2.2 3 none)]) (jA base)) ([.ref r0] : List Value).toArray s (LC - H0.size) (LS - jTot H0) (jA base) := ⟨_, rfl⟩
  rw [← hQ]
  have hl := lv_entry ([.ref r0]) (n := 3) (Nat.le_of_ble_eq_true rfl)
  rw [lg_entry_eq]
  generalize (lg_sl ([.ref r0]) ++ List.replicate (3 - (lg_sl ([.ref r0])).length) Slot.unset).toArray = ls at hl ⊢
  have hl : lv_has ls 3 [(0, .ref r0)] := hl
  generalize hR : (headSpec (jw yX11_answerReady cX11_answerReady 3 none) ({ frames := 8, cells := LC - H0.size, slots := LS - jTot H0, locals := 241 })).room = R
  subst hH0
  have hh : jSt (dC, dI) B base G0 G0 EX11_answerReady s.heap 0 0 [(r0, 13, 4, .ref bo), (bo, 2, 1, .int pc), (bo, 2, 0, .ref pa), (r0, 13, 3, .ref ou)] [] [(jFy, jYb dC dI G0), (jFs11, jSef dC dI G0), (jFl, jLs dC dI ca G0 3 none)] s.heap [] := jSt.start hX hP0 jMc.nil hI0
  clear hX hP0
  have hk0 : (0 : Int32).toInt = 0 := by decide
  have hk1 : (1 : Int32).toInt = 1 := by decide
  have hk12 : (12 : Int32).toInt = 12 := by decide
  have hly_13_8 := htw (u_lay RX11 TX11 8) (jWc_wsX110 _ (u_in_lay (by decide)))
  have hlk_65 := (htw (.fieldLink RX11 65 "ProofServer" "waiting" "Ljava/util/List;") (jWr_2 _ (List.mem_of_getElem? (i := 15) rfl)))
  have hbs : base ≤ s.heap.size := Nat.le_of_lt (Nat.lt_of_le_of_lt (hh.ab hg_r0).1 (hh.ab hg_r0).2)
  have hRc : R.cells = LC - s.heap.size := by rw [← hR]; rfl
  have hRs : R.slots = LS - jTot s.heap := by rw [← hR]; rfl
  have hh_1 := hh.addI (jOl.ie (dC := dC) (dI := dI) (G0 := G0) (k := 2) (rs := [bo, ou]) (H0 := s.heap) (F := [(2, 0), (2, 1)]) (C := RX0) (T := TX0) (N := 2) rfl (by decide) hh.2.2.2.2.1 (jOl.rf))
  clear hh
  refine lv_iconst (v := 0) hx hb dX11_answerReady_0 (by decide) ?_
  refine lv_istore_n (lv' := [(1, .int 0), (0, .ref r0)]) hx hb dX11_answerReady_1 rfl hl (by decide) rfl (fun ls hl => ?_)
  refine lv_iconst (v := 0) hx hb dX11_answerReady_2 (by decide) ?_
  refine lv_istore_n (lv' := [(2, .int 0), (1, .int 0), (0, .ref r0)]) hx hb dX11_answerReady_3 rfl hl (by decide) rfl (fun ls hl => ?_)
  have L4 : ∀ (N : Nat) (Gx_2 : jT) (zcx_2 : Nat) (zsx_2 : Nat) (v1_2 : Int32) (v2_2 : Int32) (wc_2 : Int32) (wr_2 : Nat) (m_wr_2 : Nat) (H_2 : Heap) (locs_2 : List Loc), jSt (dC, dI) B base G0 Gx_2 EX11_answerReady s.heap zcx_2 zsx_2 [(bo, 2, 1, .int wc_2), (bo, 2, 0, .ref wr_2), (r0, 13, 4, .ref bo), (r0, 13, 3, .ref ou)] [] [([(2, 0), (2, 1)], jOl (dC, dI) G0 2 [bo, ou] s.heap), (jFy, jYb dC dI Gx_2), (jFs11, jSef dC dI Gx_2), (jFl, jLs dC dI ca Gx_2 3 none)] H_2 locs_2 → (jNk [0, 1, 2, 3, 4, 5, 6, 7, 8, 9, 10, 11, 12, 13, 14, 15, 16]) G0 Gx_2 → jLe G0 Gx_2 → Gx_2 wr_2 = some (196, m_wr_2) → (0 ≤ wc_2.toInt ∧ wc_2.toInt ≤ m_wr_2 ∧ n_pa ≤ m_wr_2 ∧ m_wr_2 ≤ 1048576 ∧ jPw m_wr_2 ∧ zcx_2 ≤ (m_wr_2 - n_pa) / 16 ∧ zsx_2 ≤ 2 * (m_wr_2 - n_pa) ∧ 0 ≤ v1_2.toInt ∧ v1_2.toInt ≤ v2_2.toInt ∧ v2_2.toInt ≤ 12) → (12 - v2_2.toInt : Int) < N → ∀ ls : Array Slot, lv_has ls 3 [(0, .ref r0), (1, .int v1_2), (2, .int v2_2)] → W p l e R s m ([.ref r0] : List Value).toArray below meth c H_2 locs_2 zcx_2 zsx_2 Q (F0 m 4 ls []) := by
    intro N
    induction N with
    | zero => intro Gx_2 zcx_2 zsx_2 v1_2 v2_2 wc_2 wr_2 m_wr_2 H_2 locs_2 hh_2 hN_2 hle_2 hg_wr_2 hi_2 hm; exact absurd hm (by omega)
    | succ N L4 =>
      intro Gx_2 zcx_2 zsx_2 v1_2 v2_2 wc_2 wr_2 m_wr_2 H_2 locs_2 hh_2 hN_2 hle_2 hg_wr_2 hi_2 hm_2 ls hl
      have hg_3 := hle_2 _ _ hg_r0
      have hg_4 := hle_2 _ _ hg_bo
      have hg_5 := hle_2 _ _ hg_ou
      obtain ⟨hi_2_0, hi_2_1, hi_2_2, hi_2_3, hi_2_4, hi_2_5, hi_2_6, hi_2_7, hi_2_8, hi_2_9⟩ := hi_2
      refine lv_iload_n hx hb dX11_answerReady_4 rfl (lv_at hl 2 rfl) ?_
      refine lv_bipush (v := 12) hx hb dX11_answerReady_5 (by decide) ?_
      refine lv_icmp_ge (tgt := 71) hx hb dX11_answerReady_7 (by decide) (fun c_6 => ?_) (fun c_6 => ?_)
      · skip
        have c_6' : v2_2.toInt ≥ 12 := jb_ge (rfl) ((by decide)) c_6
        have hsz_7 := hh_2.2.2.2.2.2.1
        have htt_7 := hh_2.2.2.2.2.2.2.1
        refine W.room (fun hrc_7 hrs_7 => ?_)
        refine W.widen (k := LC - s.heap.size) (n := LS - jTot s.heap) (by omega) (by omega) ?_
        rw [hQ]
        exact W.vret hx hb hr (fun t ht hW => ⟨⟨(wc_2, wr_2, m_wr_2, Gx_2), rfl, by (try dsimp only); exact ⟨(by first | omega | rfl | assumption | fail), (by first | omega | rfl | assumption | fail), (by first | omega | rfl | assumption | fail), (by first | omega | rfl | assumption | fail), (by first | assumption | fail | omega)⟩, ⟨hh_2.ra (by first | omega | (simp only; omega)) (by first | omega | (simp only; omega)) (M1 := [(bo, 2, 1, .int wc_2), (bo, 2, 0, .ref wr_2)]) [0, 1] rfl ht, hg_wr_2, hN_2, by rw [ht]; exact hh_2.iv 0 rfl, by rw [ht]; exact hh_2.2.2.2.2.2.2.2.2.sub (L1 := [(jFy, jYb dC dI Gx_2), (jFs11, jSef dC dI Gx_2), (jFl, jLs dC dI ca Gx_2 3 none)]) [1, 2, 3] rfl⟩⟩, by rw [ht]; try exact hh_2.1.1, fun q h9 hq => by rw [ht]; try exact hh_2.1.2.1 q h9 hq⟩) hh_2.1.2.2 dX11_answerReady_71
      · skip
        have c_6' : v2_2.toInt < 12 := jb_ge_n (rfl) ((by decide)) c_6
        refine lv_iload_n hx hb dX11_answerReady_10 rfl (lv_at hl 1 rfl) ?_
        refine lv_aload_n hx hb dX11_answerReady_11 rfl (lv_at hl 0 rfl) ?_
        obtain ⟨v_8, hv_8, hh_9⟩ := hh_2.pin (C := RX11) (T := TX11) (N := 19) hB13 rfl (by decide) hg_3 (i := 8) (by decide) rfl
        clear hh_2
        obtain ⟨waiting_10, rfl, hg_waiting_10⟩ := hv_8
        refine j7_read hx hb hown hK (C := RX11) (T := TX11) (N := 19) rfl hly_13_8 hlk_65 (hh_9.at 0 rfl) dX11_answerReady_12 ?_
        obtain ⟨v_13, hv_13, hh_14⟩ := hh_9.pin (C := RJx4a65c) (T := TJx4a65c) (N := 3) hB1 rfl (by decide) hg_waiting_10 (i := 2) (by decide) rfl
        obtain ⟨size_15, rfl, hlosize_15, hhisize_15⟩ := hv_13
        have hsz_11 := hh_14.2.2.2.2.2.1
        have htt_11 := hh_14.2.2.2.2.2.2.1
        refine W.room (fun hrc_11 hrs_11 => ?_)
        refine va_callFi (A0 := jA base) (H0 := s.heap) (va_runF (hK.1 1 _ rfl).2 (As := []) (rest := [.int v1_2]) ⟨hx, hb, hml, hown, hts⟩ (uJx4a65c_size_8abf5 l dC dI ca base B hB hAp hB1 Gx_2 H_2 waiting_10 2 size_15) (va_cwF 0 hts (jgF (jWr_27 _ (List.mem_of_getElem? (i := 22) rfl)) (jWr_27 _ (List.mem_of_getElem? (i := 23) rfl)) (jWr_28 _ (List.mem_of_getElem? (i := 0) rfl)) (jWr_2 _ (List.mem_of_getElem? (i := 13) rfl)) (jWr_28 _ (List.mem_of_getElem? (i := 1) rfl))) rfl rfl rfl hK7.2.2.2.2.2.1.1 ⟨by decide, by decide, by decide +kernel⟩ ⟨by rw [← hR]; exact Nat.le_of_ble_eq_true rfl, by rw [← hR]; exact Nat.le_of_ble_eq_true rfl⟩) ⟨fun a U g mk q => by obtain ⟨q0, q1, q2, qK, q10, q11, q12⟩ := q; exact ⟨q0, q1, q2, jG.calling g mk a qK, q10, q11, q12⟩, hh_14.recv (C := RJx4a65c) (T := TJx4a65c) (N := 3) hB1 rfl (by decide) hg_waiting_10 hK, fun U hU hW => ⟨rfl, hU, hh_14.2.1, hG.step hW hU hh_14.1, hg_waiting_10, (hh_14.2.2.1.sub (L1 := [(waiting_10, 1, 2, .int size_15)]) [0] rfl), trivial⟩⟩ rfl rfl hl.1 rfl (lv_room (Nat.le_of_ble_eq_true rfl)) dX11_answerReady_15 ⟨by rw [hRc]; show _ + 0 ≤ _; omega, by rw [hRs]; show _ + 0 ≤ _; omega⟩) hh_14.1 (fun q _ h => h) (fun q h => h) (fun r_12 u_11 t_11 H_11 locs_11 ht_11 hvm_11 hr_12 hb_11 hz_11 hk_11 hS_11 => ?_)
        rw [ht_11] at hb_11
        obtain ⟨hb_111, hb_112, hb_113, hb_114, hb_115⟩ := hb_11
        have hh_11 : jSt (dC, dI) B base G0 Gx_2 EX11_answerReady s.heap zcx_2 zsx_2 [(waiting_10, 1, 2, .int size_15), (r0, 13, 8, .ref waiting_10), (bo, 2, 1, .int wc_2), (bo, 2, 0, .ref wr_2), (r0, 13, 4, .ref bo), (r0, 13, 3, .ref ou)] [] [([(2, 0), (2, 1)], jOl (dC, dI) G0 2 [bo, ou] s.heap), (jFy, jYb dC dI Gx_2), (jFs11, jSef dC dI Gx_2), (jFl, jLs dC dI ca Gx_2 3 none)] H_11 locs_11 := ((hh_14.call hb_111 hb_112 hb_113 hb_114 hS_11 rfl (L1 := [(waiting_10, 1, 2, .int size_15), (r0, 13, 8, .ref waiting_10), (bo, 2, 1, .int wc_2), (bo, 2, 0, .ref wr_2), (r0, 13, 4, .ref bo), (r0, 13, 3, .ref ou)]) [0, 1, 2, 3, 4, 5] rfl rfl (M1 := []) [] rfl rfl (I1 := [([(2, 0), (2, 1)], jOl (dC, dI) G0 2 [bo, ou] s.heap), (jFy, jYb dC dI Gx_2), (jFs11, jSef dC dI Gx_2), (jFl, jLs dC dI ca Gx_2 3 none)]) [0, 1, 2, 3] rfl rfl).more hb_115)
        clear hh_14 ht_11 hvm_11 hz_11 hk_11 hS_11 hb_111 hb_112 hb_113 hb_114 hb_115
        refine lv_icmp_ge (tgt := 71) hx hb dX11_answerReady_20 (by decide) (fun c_16 => ?_) (fun c_16 => ?_)
        · skip
          have c_16' : v1_2.toInt ≥ r_12.toInt := jb_ge (rfl) (rfl) c_16
          have hsz_17 := hh_11.2.2.2.2.2.1
          have htt_17 := hh_11.2.2.2.2.2.2.1
          refine W.room (fun hrc_17 hrs_17 => ?_)
          refine W.widen (k := LC - s.heap.size) (n := LS - jTot s.heap) (by omega) (by omega) ?_
          rw [hQ]
          exact W.vret hx hb hr (fun t ht hW => ⟨⟨(wc_2, wr_2, m_wr_2, Gx_2), rfl, by (try dsimp only); exact ⟨(by first | omega | rfl | assumption | fail), (by first | omega | rfl | assumption | fail), (by first | omega | rfl | assumption | fail), (by first | omega | rfl | assumption | fail), (by first | assumption | fail | omega)⟩, ⟨hh_11.ra (by first | omega | (simp only; omega)) (by first | omega | (simp only; omega)) (M1 := [(bo, 2, 1, .int wc_2), (bo, 2, 0, .ref wr_2)]) [2, 3] rfl ht, hg_wr_2, hN_2, by rw [ht]; exact hh_11.iv 0 rfl, by rw [ht]; exact hh_11.2.2.2.2.2.2.2.2.sub (L1 := [(jFy, jYb dC dI Gx_2), (jFs11, jSef dC dI Gx_2), (jFl, jLs dC dI ca Gx_2 3 none)]) [1, 2, 3] rfl⟩⟩, by rw [ht]; try exact hh_11.1.1, fun q h9 hq => by rw [ht]; try exact hh_11.1.2.1 q h9 hq⟩) hh_11.1.2.2 dX11_answerReady_71
        · skip
          have c_16' : v1_2.toInt < r_12.toInt := jb_ge_n (rfl) (rfl) c_16
          refine lv_aload_n hx hb dX11_answerReady_23 rfl (lv_at hl 0 rfl) ?_
          refine j7_read hx hb hown hK (C := RX11) (T := TX11) (N := 19) rfl hly_13_8 hlk_65 (hh_11.at 1 rfl) dX11_answerReady_24 ?_
          refine lv_iload_n hx hb dX11_answerReady_27 rfl (lv_at hl 1 rfl) ?_
          have hsz_18 := hh_11.2.2.2.2.2.1
          have htt_18 := hh_11.2.2.2.2.2.2.1
          refine W.room (fun hrc_18 hrs_18 => ?_)
          refine j_callFx (A0 := jA base) (H0 := s.heap) (va_runF (hK.1 1 _ rfl).2 (As := [.int v1_2]) (rest := []) ⟨hx, hb, hml, hown, hts⟩ (uJx4a65c_get_915e3L2 l dC dI ca base B hB hAp hB1 hB10 hB222 Gx_2 H_11 waiting_10 v1_2 size_15) (va_cwF 1 hts (jgF (jWr_28 _ (List.mem_of_getElem? (i := 3) rfl)) (jWr_28 _ (List.mem_of_getElem? (i := 4) rfl)) (jWr_28 _ (List.mem_of_getElem? (i := 5) rfl)) (jWr_2 _ (List.mem_of_getElem? (i := 13) rfl)) (jWr_28 _ (List.mem_of_getElem? (i := 6) rfl))) rfl rfl rfl hK7.2.2.2.2.2.1.2.1 ⟨by decide, by decide, by decide +kernel⟩ ⟨by rw [← hR]; exact Nat.le_of_ble_eq_true rfl, by rw [← hR]; exact Nat.le_of_ble_eq_true rfl⟩) ⟨fun a U g mk q => by obtain ⟨q0, q1, q2, qK, q10, q11, q12, q13, q14⟩ := q; exact ⟨q0, q1, q2, jG.calling g mk a qK, (jK7.calling g mk a q10), q11, q12, q13, q14⟩, hh_11.recv (C := RJx4a65c) (T := TJx4a65c) (N := 3) hB1 rfl (by decide) hg_waiting_10 hK, fun U hU hW => ⟨rfl, hU, hh_11.2.1, hG.step hW hU hh_11.1, (hK7.step hW hU hh_11.1), hg_waiting_10, (hh_11.2.2.1.sub (L1 := [(waiting_10, 1, 2, .int size_15)]) [0] rfl), (hh_11.2.2.2.2.2.2.2.2.sub (L1 := [(jFl, jLs dC dI ca Gx_2 3 none)]) [3] rfl), ⟨(by first | omega | rfl | assumption | fail), (by first | omega | rfl | assumption | fail)⟩⟩⟩ rfl rfl hl.1 rfl (lv_room (Nat.le_of_ble_eq_true rfl)) dX11_answerReady_28 ⟨by rw [hRc]; show _ + 0 ≤ _; omega, by rw [hRs]; show _ + 0 ≤ _; omega⟩) hh_11.1 (fun q _ h => h) (fun q h => h) (fun r_19 u_18 t_18 H_18 locs_18 ht_18 hvm_18 hr_19 hb_18 hz_18 hk_18 hS_18 => ?_)
          rw [ht_18] at hb_18
          obtain ⟨hb_18, hbE_18⟩ := hb_18
          obtain ⟨hb_181, hb_182, hb_183, hb_184, hb_185⟩ := hb_18
          have hh_18 : jSt (dC, dI) B base G0 Gx_2 EX11_answerReady s.heap zcx_2 zsx_2 [(waiting_10, 1, 2, .int size_15), (r0, 13, 8, .ref waiting_10), (bo, 2, 1, .int wc_2), (bo, 2, 0, .ref wr_2), (r0, 13, 4, .ref bo), (r0, 13, 3, .ref ou)] [] [(jFl, jLs dC dI ca Gx_2 3 none), ([(2, 0), (2, 1)], jOl (dC, dI) G0 2 [bo, ou] s.heap), (jFy, jYb dC dI Gx_2), (jFs11, jSef dC dI Gx_2)] H_18 locs_18 := (((hh_11.call hb_181 hb_182 hb_183 hb_184 hS_18 rfl (L1 := [(waiting_10, 1, 2, .int size_15), (r0, 13, 8, .ref waiting_10), (bo, 2, 1, .int wc_2), (bo, 2, 0, .ref wr_2), (r0, 13, 4, .ref bo), (r0, 13, 3, .ref ou)]) [0, 1, 2, 3, 4, 5] rfl rfl (M1 := []) [] rfl rfl (I1 := [([(2, 0), (2, 1)], jOl (dC, dI) G0 2 [bo, ou] s.heap), (jFy, jYb dC dI Gx_2), (jFs11, jSef dC dI Gx_2)]) [0, 1, 2] rfl rfl).more hb_185)).addIs hbE_18
          clear hh_11 ht_18 hvm_18 hz_18 hk_18 hS_18 hb_181 hb_182 hb_183 hb_184 hb_185
          clear  hbE_18
          obtain ⟨ret_20, rfl, hg_ret_20⟩ := hr_19
          refine va_castY hx hb hown (htw (.classLink RX11 115 "ProofServer$Request") (jWr_42 _ (List.mem_of_getElem? (i := 5) rfl))) hK7.2.2.1.2.1.2 (hh_18.recv (C := RX8) (T := TX8) (N := 5) hB10 rfl (by decide) hg_ret_20 hK) dX11_answerReady_33 ?_
          have hsz_21 := hh_18.2.2.2.2.2.1
          have htt_21 := hh_18.2.2.2.2.2.2.1
          refine W.room (fun hrc_21 hrs_21 => ?_)
          refine va_calli (A0 := jA base) (H0 := s.heap) (va_runV (As := []) (rest := []) ⟨hx, hb, hml, hown, hts⟩ (uX8_isReady l dC dI ca base B hB hAp hB3 hB10 Gx_2 H_18 ret_20) (cwV 0 hts (jgV (jWr_29 _ (List.mem_of_getElem? (i := 19) rfl)) (jWr_29 _ (List.mem_of_getElem? (i := 20) rfl)) (jWr_29 _ (List.mem_of_getElem? (i := 21) rfl)) (jWr_19 _ (List.mem_of_getElem? (i := 5) rfl)) (jWr_29 _ (List.mem_of_getElem? (i := 22) rfl))) rfl rfl rfl (by decide +kernel) ⟨by rw [← hR]; exact Nat.le_of_ble_eq_true rfl, by rw [← hR]; exact Nat.le_of_ble_eq_true rfl⟩) ⟨fun a U g mk q => by obtain ⟨q0, q1, q2, qK, q10, q11, q12⟩ := q; exact ⟨q0, q1, q2, jG.calling g mk a qK, q10, q11, q12⟩, hh_18.recv (C := RX8) (T := TX8) (N := 5) hB10 rfl (by decide) hg_ret_20 hK, fun U hU hW => ⟨rfl, hU, hh_18.2.1, hG.step hW hU hh_18.1, hg_ret_20, jP.nil, trivial⟩⟩ rfl rfl hl.1 rfl (lv_room (Nat.le_of_ble_eq_true rfl)) dX11_answerReady_36 ⟨by rw [hRc]; show _ + 0 ≤ _; omega, by rw [hRs]; show _ + 0 ≤ _; omega⟩) hh_18.1 (fun q _ h => h) (fun q h => h) (fun r_22 u_21 t_21 H_21 locs_21 ht_21 hvm_21 hr_22 hb_21 hz_21 hk_21 hS_21 => ?_)
          rw [ht_21] at hb_21
          obtain ⟨hb_211, hb_212, hb_213, hb_214, hb_215⟩ := hb_21
          have hh_21 : jSt (dC, dI) B base G0 Gx_2 EX11_answerReady s.heap zcx_2 zsx_2 [(waiting_10, 1, 2, .int size_15), (r0, 13, 8, .ref waiting_10), (bo, 2, 1, .int wc_2), (bo, 2, 0, .ref wr_2), (r0, 13, 4, .ref bo), (r0, 13, 3, .ref ou)] [] [(jFl, jLs dC dI ca Gx_2 3 none), ([(2, 0), (2, 1)], jOl (dC, dI) G0 2 [bo, ou] s.heap), (jFy, jYb dC dI Gx_2), (jFs11, jSef dC dI Gx_2)] H_21 locs_21 := ((hh_18.call hb_211 hb_212 hb_213 hb_214 hS_21 rfl (L1 := [(waiting_10, 1, 2, .int size_15), (r0, 13, 8, .ref waiting_10), (bo, 2, 1, .int wc_2), (bo, 2, 0, .ref wr_2), (r0, 13, 4, .ref bo), (r0, 13, 3, .ref ou)]) [0, 1, 2, 3, 4, 5] rfl rfl (M1 := []) [] rfl rfl (I1 := [(jFl, jLs dC dI ca Gx_2 3 none), ([(2, 0), (2, 1)], jOl (dC, dI) G0 2 [bo, ou] s.heap), (jFy, jYb dC dI Gx_2), (jFs11, jSef dC dI Gx_2)]) [0, 1, 2, 3] rfl rfl).more hb_215)
          clear hh_18 ht_21 hvm_21 hz_21 hk_21 hS_21 hb_211 hb_212 hb_213 hb_214 hb_215
          obtain ⟨hr_22b, hr_22p⟩ := hr_22
          have hr_22' := jb_01 hr_22b
          refine lv_if_eq (tgt := 62) hx hb dX11_answerReady_39 (by decide) (fun c_23 => ?_) (fun c_23 => ?_)
          · skip
            have c_23' : r_22.toInt = 0 := jb_eq (rfl) ((by decide)) c_23
            obtain ⟨z_24, ez_24⟩ : ∃ y : Int32, y = v1_2 + 1 := ⟨_, rfl⟩
            refine lv_iinc (v := z_24) (lv' := [(1, .int z_24), (0, .ref r0), (2, .int v2_2)]) hx hb dX11_answerReady_62 hl (k := 1) rfl (by rw [ez_24]; rfl) (by decide) rfl (fun ls hl => ?_)
            have hz_24 : z_24.toInt = v1_2.toInt + 1 := by rw [ez_24]; exact jb_iadd2 (rfl) (by decide) (by omega)
            obtain ⟨z_25, ez_25⟩ : ∃ y : Int32, y = v2_2 + 1 := ⟨_, rfl⟩
            refine lv_iinc (v := z_25) (lv' := [(2, .int z_25), (1, .int z_24), (0, .ref r0)]) hx hb dX11_answerReady_65 hl (k := 2) rfl (by rw [ez_25]; rfl) (by decide) rfl (fun ls hl => ?_)
            have hz_25 : z_25.toInt = v2_2.toInt + 1 := by rw [ez_25]; exact jb_iadd2 (rfl) (by decide) (by omega)
            refine lv_goto (tgt := 4) hx hb dX11_answerReady_68 (by decide) ?_
            refine W.tight (c2 := zcx_2) (n2 := zsx_2) hh_21.2.2.2.2.2.1 hh_21.2.2.2.2.2.2.1 ?_
            exact L4 Gx_2 zcx_2 zsx_2 z_24 z_25 wc_2 wr_2 m_wr_2 _ _ (hh_21.sub (L1 := [(bo, 2, 1, .int wc_2), (bo, 2, 0, .ref wr_2), (r0, 13, 4, .ref bo), (r0, 13, 3, .ref ou)]) [2, 3, 4, 5] rfl (M1 := []) [] rfl (I1 := [([(2, 0), (2, 1)], jOl (dC, dI) G0 2 [bo, ou] s.heap), (jFy, jYb dC dI Gx_2), (jFs11, jSef dC dI Gx_2), (jFl, jLs dC dI ca Gx_2 3 none)]) [1, 2, 3, 0] rfl) (hN_2) (hle_2) hg_wr_2 (⟨(by first | omega | rfl | assumption | fail), (by first | omega | rfl | assumption | fail), (by first | omega | rfl | assumption | fail), (by first | omega | rfl | assumption | fail), (by first | assumption | fail | omega), (by first | omega | rfl | assumption | fail), (by first | omega | rfl | assumption | fail), (by first | omega | rfl | assumption | fail), (by first | omega | rfl | assumption | fail), (by first | omega | rfl | assumption | fail)⟩) (by omega) _ (lv_sub hl [2, 1, 0] rfl)
          · skip
            have c_23' : r_22.toInt ≠ 0 := jb_eq_n (rfl) ((by decide)) c_23
            refine lv_aload_n hx hb dX11_answerReady_42 rfl (lv_at hl 0 rfl) ?_
            refine lv_aload_n hx hb dX11_answerReady_43 rfl (lv_at hl 0 rfl) ?_
            refine j7_read hx hb hown hK (C := RX11) (T := TX11) (N := 19) rfl hly_13_8 hlk_65 (hh_21.at 1 rfl) dX11_answerReady_44 ?_
            refine lv_iload_n hx hb dX11_answerReady_47 rfl (lv_at hl 1 rfl) ?_
            have hsz_26 := hh_21.2.2.2.2.2.1
            have htt_26 := hh_21.2.2.2.2.2.2.1
            refine W.room (fun hrc_26 hrs_26 => ?_)
            refine j_callFx (A0 := jA base) (H0 := s.heap) (va_runF (hK.1 1 _ rfl).2 (As := [.int v1_2]) (rest := [.ref r0]) ⟨hx, hb, hml, hown, hts⟩ (uJx4a65c_remove_915e3L2 l dC dI ca base B hB hAp hB1 hB10 hB222 Gx_2 H_21 waiting_10 v1_2 size_15) (va_cwF 1 hts (jgF (jWr_42 _ (List.mem_of_getElem? (i := 7) rfl)) (jWr_42 _ (List.mem_of_getElem? (i := 8) rfl)) (jWr_42 _ (List.mem_of_getElem? (i := 9) rfl)) (jWr_2 _ (List.mem_of_getElem? (i := 13) rfl)) (jWr_42 _ (List.mem_of_getElem? (i := 10) rfl))) rfl rfl rfl hK7.2.2.2.2.2.1.2.2.2 ⟨by decide, by decide, by decide +kernel⟩ ⟨by rw [← hR]; exact Nat.le_of_ble_eq_true rfl, by rw [← hR]; exact Nat.le_of_ble_eq_true rfl⟩) ⟨fun a U g mk q => by obtain ⟨q0, q1, q2, qK, q10, q11, q12, q13, q14⟩ := q; exact ⟨q0, q1, q2, jG.calling g mk a qK, (jK7.calling g mk a q10), q11, q12, q13, q14⟩, hh_21.recv (C := RJx4a65c) (T := TJx4a65c) (N := 3) hB1 rfl (by decide) hg_waiting_10 hK, fun U hU hW => ⟨rfl, hU, hh_21.2.1, hG.step hW hU hh_21.1, (hK7.step hW hU hh_21.1), hg_waiting_10, (hh_21.2.2.1.sub (L1 := [(waiting_10, 1, 2, .int size_15)]) [0] rfl), (hh_21.2.2.2.2.2.2.2.2.sub (L1 := [(jFl, jLs dC dI ca Gx_2 3 none)]) [0] rfl), ⟨(by first | omega | rfl | assumption | fail), (by first | omega | rfl | assumption | fail)⟩⟩⟩ rfl rfl hl.1 rfl (lv_room (Nat.le_of_ble_eq_true rfl)) dX11_answerReady_48 ⟨by rw [hRc]; show _ + 0 ≤ _; omega, by rw [hRs]; show _ + 0 ≤ _; omega⟩) hh_21.1 (fun q _ h => h) (fun q h => h) (fun r_27 u_26 t_26 H_26 locs_26 ht_26 hvm_26 hr_27 hb_26 hz_26 hk_26 hS_26 => ?_)
            obtain ⟨qz_26, rfl⟩ : ∃ z, z = u_26 := ⟨_, rfl⟩
            rw [ht_26] at hb_26
            obtain ⟨hb_26, hbE_26⟩ := hb_26
            obtain ⟨hb_26, hbO_26⟩ := hb_26
            obtain ⟨hb_261, hb_262, hb_263, hb_264, hb_265⟩ := hb_26
            have hh_26 : jSt (dC, dI) B base G0 Gx_2 EX11_answerReady s.heap zcx_2 zsx_2 [(waiting_10, 1, 2, .int qz_26), (r0, 13, 8, .ref waiting_10), (bo, 2, 1, .int wc_2), (bo, 2, 0, .ref wr_2), (r0, 13, 4, .ref bo), (r0, 13, 3, .ref ou)] [] [(jFl, jLs dC dI ca Gx_2 3 none), ([(2, 0), (2, 1)], jOl (dC, dI) G0 2 [bo, ou] s.heap), (jFy, jYb dC dI Gx_2), (jFs11, jSef dC dI Gx_2)] H_26 locs_26 := (((hh_21.call hb_261 hb_262 hb_263 hb_264 hS_26 rfl (L1 := [(r0, 13, 8, .ref waiting_10), (bo, 2, 1, .int wc_2), (bo, 2, 0, .ref wr_2), (r0, 13, 4, .ref bo), (r0, 13, 3, .ref ou)]) [1, 2, 3, 4, 5] rfl rfl (M1 := []) [] rfl rfl (I1 := [([(2, 0), (2, 1)], jOl (dC, dI) G0 2 [bo, ou] s.heap), (jFy, jYb dC dI Gx_2), (jFs11, jSef dC dI Gx_2)]) [1, 2, 3] rfl rfl).more hb_265)).addIs hbE_26
            clear hh_21 ht_26 hvm_26 hz_26 hk_26 hS_26 hb_261 hb_262 hb_263 hb_264 hb_265
            clear  hbE_26
            obtain ⟨hr_27, hr_27p⟩ := hr_27
            obtain ⟨ret_28, rfl, hg_ret_28⟩ := hr_27
            refine va_castY hx hb hown (htw (.classLink RX11 115 "ProofServer$Request") (jWr_42 _ (List.mem_of_getElem? (i := 5) rfl))) hK7.2.2.1.2.1.2 (hh_26.recv (C := RX8) (T := TX8) (N := 5) hB10 rfl (by decide) hg_ret_28 hK) dX11_answerReady_53 ?_
            have hsz_29 := hh_26.2.2.2.2.2.1
            have htt_29 := hh_26.2.2.2.2.2.2.1
            refine W.room (fun hrc_29 hrs_29 => ?_)
            refine va_callv (A0 := jA base) (H0 := s.heap) (va_runV (As := [.ref ret_28]) (rest := []) ⟨hx, hb, hml, hown, hts⟩ (uX11_reply l dC dI ca base B hB hAp hB2 hB3 hB4 hB5 hB7 hB8 hB9 hB10 hB11 hB13 hB101 hB102 hB132 hB196 hB210 hB214 hB280 hB286 hB287 hB288 hB313 Gx_2 H_26 r0 ret_28 bo wc_2 wr_2 m_wr_2 ou LC LS) (cwV 1 hts (jgV (jWr_30 _ (List.mem_of_getElem? (i := 2) rfl)) (jWr_30 _ (List.mem_of_getElem? (i := 3) rfl)) (jWr_30 _ (List.mem_of_getElem? (i := 4) rfl)) (jWr_1 _ (List.mem_of_getElem? (i := 2) rfl)) (jWr_30 _ (List.mem_of_getElem? (i := 5) rfl))) rfl rfl rfl (by decide +kernel) ⟨by rw [← hR]; exact Nat.le_of_ble_eq_true rfl, by rw [← hR]; exact Nat.le_of_ble_eq_true rfl⟩) ⟨fun a U g mk q => by obtain ⟨q0, q1, q2, qK, q10, q11, q12, q13, q14, q15, q16, q17, q18, q19⟩ := q; exact ⟨q0, q1, q2, jG.calling g mk a qK, (va_K.moved (Vm.Alike.refl U.vm) q10), (jK5.moved (Vm.Alike.refl U.vm) q11), q12, q13, q14, q15, q16, q17, q18, q19⟩, hh_26.recv (C := RX11) (T := TX11) (N := 19) hB13 rfl (by decide) hg_3 hK, fun U hU hW => ⟨rfl, hU, hh_26.2.1, hG.step hW hU hh_26.1, va_K.moved hW.alike hK2, jK5.moved hW.alike hK5, hg_3, hg_ret_28, hg_4, hg_wr_2, hg_5, (hh_26.2.2.1.sub (L1 := [(r0, 13, 4, .ref bo), (bo, 2, 1, .int wc_2), (bo, 2, 0, .ref wr_2), (r0, 13, 3, .ref ou)]) [4, 2, 3, 5] rfl), (hh_26.2.2.2.2.2.2.2.2.sub (L1 := [(jFy, jYb dC dI Gx_2), (jFs11, jSef dC dI Gx_2)]) [2, 3] rfl), (by omega), (by omega), ⟨(by first | omega | rfl | assumption | fail), (by first | omega | rfl | assumption | fail), (by first | omega | rfl | assumption | fail), (by first | omega | rfl | assumption | fail), (by first | assumption | fail | omega)⟩⟩⟩ rfl rfl hl.1 rfl (lv_room (Nat.le_of_ble_eq_true rfl)) dX11_answerReady_56 ⟨by rw [hRc]; omega, by rw [hRs]; omega⟩) hh_26.1 (fun q _ h => h) (fun q h => h) (fun u_29 t_29 H_29 locs_29 ht_29 hvm_29 hr_30 hb_29 hz_29 hk_29 hS_29 => ?_)
            obtain ⟨qc_29, qa_29, m_qa_29, G_29⟩ := u_29
            rw [ht_29] at hb_29
            simp only at hb_29
            obtain ⟨⟨hb_291, hb_292, hb_293, hb_294, hb_295, hb_296⟩, hgq_29_0, hN_29, hbO_29, hbE_29⟩ := hb_29
            have hh_29 : jSt (dC, dI) B base G0 G_29 EX11_answerReady s.heap (zcx_2 + ((m_qa_29 - m_wr_2) / 16)) (zsx_2 + (2 * (m_qa_29 - m_wr_2))) [(bo, 2, 1, .int qc_29), (bo, 2, 0, .ref qa_29), (waiting_10, 1, 2, .int qz_26), (r0, 13, 8, .ref waiting_10), (r0, 13, 4, .ref bo), (r0, 13, 3, .ref ou)] [] [(jFl, jLs dC dI ca Gx_2 3 none)] H_29 locs_29 := (hh_26.callG hb_291 hb_292 hb_293 hb_294 hb_295 hS_29 rfl (L1 := [(waiting_10, 1, 2, .int qz_26), (r0, 13, 8, .ref waiting_10), (r0, 13, 4, .ref bo), (r0, 13, 3, .ref ou)]) [0, 1, 4, 5] rfl rfl (M1 := []) [] rfl rfl (I1 := [(jFl, jLs dC dI ca Gx_2 3 none)]) [0] rfl rfl).more hb_296
            have hNn_29 : (jNk [0, 1, 2, 3, 4, 5, 6, 7, 8, 9, 10, 11, 12, 13, 14, 15, 16]) G0 G_29 := (hN_2).tr hN_29
            have hg_31 := hb_292 _ _ hg_3
            have hg_32 := hb_292 _ _ hg_waiting_10
            have hg_33 := hb_292 _ _ hg_4
            have hg_34 := hb_292 _ _ hg_5
            have hd_35 := jLs.grow (hh_29.iv 0 rfl) hb_292 hN_29 (by decide)
            have hh_36 := hh_29.sub (L1 := [(bo, 2, 1, .int qc_29), (bo, 2, 0, .ref qa_29), (waiting_10, 1, 2, .int qz_26), (r0, 13, 8, .ref waiting_10), (r0, 13, 4, .ref bo), (r0, 13, 3, .ref ou)]) [0, 1, 2, 3, 4, 5] rfl (M1 := []) [] rfl (I1 := []) [] rfl
            clear hh_29
            have hh_37 := hh_36.addI (jLs.ie hd_35)
            clear hh_36
            have hh_38 := hh_37.addIs hbE_29
            have hd_39 := jOl.trL (hh_26.iv 1 rfl) hh_26.2.2.2.2.1 hbO_29 (by simp)
            have hh_40 := hh_38.addI (jOl.ie (dC := dC) (dI := dI) (G0 := G0) (k := 2) (rs := [bo, ou]) (H0 := s.heap) (F := [(2, 0), (2, 1)]) (C := RX0) (T := TX0) (N := 2) rfl (by decide) hh_38.2.2.2.2.1 (hd_39))
            clear hh_38
            try simp only at hr_30
            obtain ⟨hr_30_0, hr_30_1, hr_30_2, hr_30_3, hr_30_4⟩ := hr_30
            have hh_41 := hh_40.wk (zc1 := (m_qa_29 - n_pa) / 16) (zs1 := 2 * (m_qa_29 - n_pa)) (by omega) (by omega)
            clear hh_40
            try clear hsz_29 htt_29 hrc_29 hrs_29
            try clear hb_294 hb_295
            refine lv_goto (tgt := 65) hx hb dX11_answerReady_59 (by decide) ?_
            obtain ⟨z_42, ez_42⟩ : ∃ y : Int32, y = v2_2 + 1 := ⟨_, rfl⟩
            refine lv_iinc (v := z_42) (lv' := [(2, .int z_42), (0, .ref r0), (1, .int v1_2)]) hx hb dX11_answerReady_65 hl (k := 2) rfl (by rw [ez_42]; rfl) (by decide) rfl (fun ls hl => ?_)
            have hz_42 : z_42.toInt = v2_2.toInt + 1 := by rw [ez_42]; exact jb_iadd2 (rfl) (by decide) (by omega)
            refine lv_goto (tgt := 4) hx hb dX11_answerReady_68 (by decide) ?_
            refine W.tight (c2 := ((m_qa_29 - n_pa) / 16)) (n2 := (2 * (m_qa_29 - n_pa))) hh_41.2.2.2.2.2.1 hh_41.2.2.2.2.2.2.1 ?_
            exact L4 G_29 ((m_qa_29 - n_pa) / 16) (2 * (m_qa_29 - n_pa)) v1_2 z_42 qc_29 qa_29 m_qa_29 _ _ (hh_41.sub (L1 := [(bo, 2, 1, .int qc_29), (bo, 2, 0, .ref qa_29), (r0, 13, 4, .ref bo), (r0, 13, 3, .ref ou)]) [0, 1, 4, 5] rfl (M1 := []) [] rfl (I1 := [([(2, 0), (2, 1)], jOl (dC, dI) G0 2 [bo, ou] s.heap), (jFy, jYb dC dI G_29), (jFs11, jSef dC dI G_29), (jFl, jLs dC dI ca G_29 3 none)]) [0, 1, 2, 3] rfl) (hNn_29) ((hle_2).tr hb_292) hgq_29_0 (⟨(by first | omega | rfl | assumption | fail), (by first | omega | rfl | assumption | fail), (by first | omega | rfl | assumption | fail), (by first | omega | rfl | assumption | fail), (by first | assumption | fail | omega), (by first | omega | rfl | assumption | fail), (by first | omega | rfl | assumption | fail), (by first | omega | rfl | assumption | fail), (by first | omega | rfl | assumption | fail), (by first | omega | rfl | assumption | fail)⟩) (by omega) _ (lv_sub hl [1, 2, 0] rfl)
  refine W.tight (c2 := 0) (n2 := 0) hh_1.2.2.2.2.2.1 hh_1.2.2.2.2.2.2.1 ?_
  exact L4 (12 - (0 : Int32).toInt : Int).toNat.succ G0 0 0 0 0 pc pa n_pa _ _ (hh_1.sub (L1 := [(bo, 2, 1, .int pc), (bo, 2, 0, .ref pa), (r0, 13, 4, .ref bo), (r0, 13, 3, .ref ou)]) [1, 2, 0, 3] rfl (M1 := []) [] rfl (I1 := [([(2, 0), (2, 1)], jOl (dC, dI) G0 2 [bo, ou] s.heap), (jFy, jYb dC dI G0), (jFs11, jSef dC dI G0), (jFl, jLs dC dI ca G0 3 none)]) [0, 1, 2, 3] rfl) (jNk.rf) (jLe.rf) hg_pa (⟨(by first | omega | rfl | assumption | fail), (by first | omega | rfl | assumption | fail), (by first | omega | rfl | assumption | fail), (by first | omega | rfl | assumption | fail), (by first | assumption | fail | omega), (by first | omega | rfl | assumption | fail), (by first | omega | rfl | assumption | fail), (by first | omega | rfl | assumption | fail), (by first | omega | rfl | assumption | fail), (by first | omega | rfl | assumption | fail)⟩) (by omega) _ (lv_sub hl [2, 1, 0] rfl)
set_option maxHeartbeats 4000000 in
set_option maxRecDepth 20000 in
theorem uX11_dismiss (l : Launch) (dC : Nat → ClassId) (dI : Nat → Nat → Nat) (ca : Nat → ClassId) (base : Nat) (B : jF) (hB : jBok B) (hAp : jAp (dC, dI)) (hB1 : ∀ n G a H, B 1 n G a H ↔ jOb (dC, dI) 1 3 (F1 n G) a H) (hB2 : ∀ n G a H, B 2 n G a H ↔ jOb (dC, dI) 2 2 (F2 n G) a H) (hB3 : ∀ n G a H, B 3 n G a H ↔ jOb (dC, dI) 3 17 (F3 n G) a H) (hB4 : ∀ n G a H, B 4 n G a H ↔ jOb (dC, dI) 4 12 (F4 n G) a H) (hB10 : ∀ n G a H, B 10 n G a H ↔ jOb (dC, dI) 10 5 (F10 n G) a H) (hB13 : ∀ n G a H, B 13 n G a H ↔ jOb (dC, dI) 13 19 (F13 n G) a H) (hB196 : ∀ n G a H, B 196 n G a H ↔ jAr (dC, dI) (ca 0) (fun j z => jBf j z) n a H) (hB222 : ∀ n G a H, B 222 n G a H ↔ jAq (dC, dI) (ca 9) (jQn 10 0) n G a H) (G0 : jT) (H0 : Heap) (r0 : Nat) (r1 : Nat) (bo : Nat) (pc : Int32) (pa : Nat) (n_pa : Nat) (ou : Nat) (op : Nat) (sz : Int32) (LC LS : Nat) : Met l yX11_dismiss (jw yX11_dismiss cX11_dismiss 4 none) ({ frames := 7, cells := LC - H0.size, slots := LS - jTot H0, locals := 207 }) (va_Pc [.ref r0, .ref r1] (fun U => U.heap = H0 ∧ jX B base G0 [] H0 ∧ jG dC dI ca base U ∧ jK5 dC dI ca U ∧ jK7 dC dI ca base U ∧ G0 r0 = some (13, 0) ∧ G0 r1 = some (3, 0) ∧ G0 bo = some (2, 0) ∧ G0 pa = some (196, n_pa) ∧ G0 ou = some (2, 20000) ∧ G0 op = some (1, 1) ∧ jP (dC, dI) G0 H0 [(r0, 13, 4, .ref bo), (bo, 2, 1, .int pc), (bo, 2, 0, .ref pa), (r0, 13, 3, .ref ou), (r0, 13, 7, .ref op), (op, 1, 2, .int sz)] ∧ jIs (dC, dI) G0 H0 [(jFy, jYb dC dI G0), (jFl, jLs dC dI ca G0 3 none)] ∧ H0.size + (1048576 - n_pa) / 16 + 1 ≤ LC ∧ jTot H0 + 2 * (1048576 - n_pa) ≤ LS ∧ 0 ≤ pc.toInt ∧ pc.toInt ≤ n_pa ∧ 16 ≤ n_pa ∧ n_pa ≤ 1048576 ∧ jPw n_pa)) (va_Qv (S := Int32 × Int32 × Nat × Nat × jT) (fun u => 0 ≤ u.1.toInt ∧ u.1.toInt ≤ u.2.2.2.1 ∧ n_pa ≤ u.2.2.2.1 ∧ u.2.2.2.1 ≤ 1048576 ∧ jPw u.2.2.2.1 ∧ u.2.1.toInt = sz.toInt) (fun u t => jRa (dC, dI) B base G0 u.2.2.2.2 EX11_dismiss H0 ((u.2.2.2.1 - n_pa) / 16) (2 * (u.2.2.2.1 - n_pa)) [(bo, 2, 1, .int u.1), (op, 1, 2, .int u.2.1), (bo, 2, 0, .ref u.2.2.1)] t.heap ∧ u.2.2.2.2 u.2.2.1 = some (196, u.2.2.2.1) ∧ (jNk [0, 1, 2, 3, 4, 5, 6, 7, 8, 9, 10, 11, 12, 13, 14, 15, 16]) G0 u.2.2.2.2 ∧ jOl (dC, dI) G0 2 [bo, ou] H0 t.heap ∧ jIs (dC, dI) u.2.2.2.2 t.heap [(jFy, jYb dC dI u.2.2.2.2), (jFl, jLs dC dI ca u.2.2.2.2 3 none)]) (jA base)) (LC - H0.size) (LS - jTot H0) (jA base) := by
  refine Met.ofW (cc := cX11_dismiss) (maxL := 4) (ret := none) (by decide) rfl ?_
  intro p e s m args below meth c s₁ Bd hml hv
  obtain ⟨rfl, hH0, hX, hG, hK5, hK7, hg_r0, hg_r1, hg_bo, hg_pa, hg_ou, hg_op, hP0, hI0, hLC0, hLS0, hp0, hp1, hp2, hp3, hp4⟩ := hv
  have hK := hG.1
  have hx := Bd.exec
  have hb := Bd.bytes
  have hr := Bd.returns
  have hts := atoms_spec (ws := (jw yX11_dismiss cX11_dismiss 4 none)) Bd.pre
  have htw : ∀ w ∈ jWl, w.before _ s = true := fun w h => hts w (List.mem_cons_of_mem _ h)
  have hown : s.vm.findClass RX11 = some m.cls := findClass_of_methodNamed Bd.named
  have hlocks := Bd.notSynchronized
  obtain ⟨Q, hQ⟩ : ∃ Q, Q = MQ below (va_Qv (S := Int32 × Int32 × Nat × Nat × jT) (fun u => 0 ≤ u.1.toInt ∧ u.1.toInt ≤ u.2.2.2.1 ∧ n_pa ≤ u.2.2.2.1 ∧ u.2.2.2.1 ≤ 1048576 ∧ jPw u.2.2.2.1 ∧ u.2.1.toInt = sz.toInt) (fun u t => jRa (dC, dI) B base G0 u.2.2.2.2 EX11_dismiss H0 ((u.2.2.2.1 - n_pa) / 16) (2 * (u.2.2.2.1 - n_pa)) [(bo, 2, 1, .int u.1), (op, 1, 2, .int u.2.1), (bo, 2, 0, .ref u.2.2.1)] t.heap ∧ u.2.2.2.2 u.2.2.1 = some (196, u.2.2.2.1) ∧ (jNk [0, 1, 2, 3, 4, 5, 6, 7, 8, 9, 10, 11, 12, 13, 14, 15, 16]) G0 u.2.2.2.2 ∧ jOl (dC, dI) G0 2 [bo, ou] H0 t.heap ∧ jIs (dC, dI) u.2.2.2.2 t.heap [(jFy, jYb dC dI u.2.2.2.2), (jFl, jLs dC dI ca u.2.2.2.2 3 none)]) (jA base)) ([.ref r0, .ref r1] : List Value).toArray s (LC - H0.size) (LS - jTot H0) (jA base) := ⟨_, rfl⟩
  rw [← hQ]
  have hl := lv_entry ([.ref r0, .ref r1]) (n := 4) (Nat.le_of_ble_eq_true rfl)
  rw [lg_entry_eq]
  generalize (lg_sl ([.ref r0, .ref r1]) ++ List.replicate (4 - (lg_sl ([.ref r0, .ref r1])).length) Slot.unset).toArray = ls at hl ⊢
  have hl : lv_has ls 4 [(0, .ref r0), (1, .ref r1)] := hl
  generalize hR : (headSpec (jw yX11_dismiss cX11_dismiss 4 none) ({ frames := 7, cells := LC - H0.size, slots := LS - jTot H0, locals := 207 })).room = R
  subst hH0
  have hh : jSt (dC, dI) B base G0 G0 EX11_dismiss s.heap 0 0 [(r0, 13, 4, .ref bo), (bo, 2, 1, .int pc), (bo, 2, 0, .ref pa), (r0, 13, 3, .ref ou), (r0, 13, 7, .ref op), (op, 1, 2, .int sz)] [] [(jFy, jYb dC dI G0), (jFl, jLs dC dI ca G0 3 none)] s.heap [] := jSt.start hX hP0 jMc.nil hI0
  clear hX hP0
  have hkm32801 : ((-32801) : Int32).toInt = (-32801) := by decide
  have hk0 : (0 : Int32).toInt = 0 := by decide
  have hk1 : (1 : Int32).toInt = 1 := by decide
  have hk12 : (12 : Int32).toInt = 12 := by decide
  have hly_10_1 := htw (u_lay RX8 TX8 1) (jWc_wsX80 _ (u_in_lay (by decide)))
  have hly_13_8 := htw (u_lay RX11 TX11 8) (jWc_wsX110 _ (u_in_lay (by decide)))
  have hlk_65 := (htw (.fieldLink RX11 65 "ProofServer" "waiting" "Ljava/util/List;") (jWr_2 _ (List.mem_of_getElem? (i := 15) rfl)))
  have hlk_432 := (htw (.fieldLink RX11 432 "ProofServer$Request" "about" "LProofServer$Document;") (jWr_27 _ (List.mem_of_getElem? (i := 14) rfl)))
  have hcs_459 := htw (.constant RX11 459 (-32801)) (jWr_42 _ (List.mem_of_getElem? (i := 6) rfl))
  have hbs : base ≤ s.heap.size := Nat.le_of_lt (Nat.lt_of_le_of_lt (hh.ab hg_r0).1 (hh.ab hg_r0).2)
  have hRc : R.cells = LC - s.heap.size := by rw [← hR]; rfl
  have hRs : R.slots = LS - jTot s.heap := by rw [← hR]; rfl
  have hh_1 := hh.addI (jOl.ie (dC := dC) (dI := dI) (G0 := G0) (k := 2) (rs := [bo, ou]) (H0 := s.heap) (F := [(2, 0), (2, 1)]) (C := RX0) (T := TX0) (N := 2) rfl (by decide) hh.2.2.2.2.1 (jOl.rf))
  clear hh
  refine lv_iconst (v := 0) hx hb dX11_dismiss_0 (by decide) ?_
  refine lv_istore_n (lv' := [(2, .int 0), (0, .ref r0), (1, .ref r1)]) hx hb dX11_dismiss_1 rfl hl (by decide) rfl (fun ls hl => ?_)
  refine lv_iconst (v := 0) hx hb dX11_dismiss_2 (by decide) ?_
  refine lv_istore_n (lv' := [(3, .int 0), (2, .int 0), (0, .ref r0), (1, .ref r1)]) hx hb dX11_dismiss_3 rfl hl (by decide) rfl (fun ls hl => ?_)
  have L4 : ∀ (N : Nat) (Gx_2 : jT) (zcx_2 : Nat) (zsx_2 : Nat) (v2_2 : Int32) (v3_2 : Int32) (wc_2 : Int32) (wr_2 : Nat) (m_wr_2 : Nat) (wz_2 : Int32) (H_2 : Heap) (locs_2 : List Loc), jSt (dC, dI) B base G0 Gx_2 EX11_dismiss s.heap zcx_2 zsx_2 [(bo, 2, 1, .int wc_2), (bo, 2, 0, .ref wr_2), (op, 1, 2, .int wz_2), (r0, 13, 4, .ref bo), (r0, 13, 3, .ref ou), (r0, 13, 7, .ref op)] [] [([(2, 0), (2, 1)], jOl (dC, dI) G0 2 [bo, ou] s.heap), (jFy, jYb dC dI Gx_2), (jFl, jLs dC dI ca Gx_2 3 none)] H_2 locs_2 → (jNk [0, 1, 2, 3, 4, 5, 6, 7, 8, 9, 10, 11, 12, 13, 14, 15, 16]) G0 Gx_2 → jLe G0 Gx_2 → Gx_2 wr_2 = some (196, m_wr_2) → (0 ≤ wc_2.toInt ∧ wc_2.toInt ≤ m_wr_2 ∧ n_pa ≤ m_wr_2 ∧ m_wr_2 ≤ 1048576 ∧ jPw m_wr_2 ∧ zcx_2 ≤ (m_wr_2 - n_pa) / 16 ∧ zsx_2 ≤ 2 * (m_wr_2 - n_pa) ∧ wz_2.toInt = sz.toInt ∧ 0 ≤ v2_2.toInt ∧ v2_2.toInt ≤ v3_2.toInt ∧ v3_2.toInt ≤ 12) → (12 - v3_2.toInt : Int) < N → ∀ ls : Array Slot, lv_has ls 4 [(0, .ref r0), (1, .ref r1), (2, .int v2_2), (3, .int v3_2)] → W p l e R s m ([.ref r0, .ref r1] : List Value).toArray below meth c H_2 locs_2 zcx_2 zsx_2 Q (F0 m 4 ls []) := by
    intro N
    induction N with
    | zero => intro Gx_2 zcx_2 zsx_2 v2_2 v3_2 wc_2 wr_2 m_wr_2 wz_2 H_2 locs_2 hh_2 hN_2 hle_2 hg_wr_2 hi_2 hm; exact absurd hm (by omega)
    | succ N L4 =>
      intro Gx_2 zcx_2 zsx_2 v2_2 v3_2 wc_2 wr_2 m_wr_2 wz_2 H_2 locs_2 hh_2 hN_2 hle_2 hg_wr_2 hi_2 hm_2 ls hl
      have hg_3 := hle_2 _ _ hg_r0
      have hg_4 := hle_2 _ _ hg_r1
      have hg_5 := hle_2 _ _ hg_bo
      have hg_6 := hle_2 _ _ hg_ou
      have hg_7 := hle_2 _ _ hg_op
      obtain ⟨hi_2_0, hi_2_1, hi_2_2, hi_2_3, hi_2_4, hi_2_5, hi_2_6, hi_2_7, hi_2_8, hi_2_9, hi_2_10⟩ := hi_2
      refine lv_iload_n hx hb dX11_dismiss_4 rfl (lv_at hl 3 rfl) ?_
      refine lv_bipush (v := 12) hx hb dX11_dismiss_5 (by decide) ?_
      refine lv_icmp_ge (tgt := 75) hx hb dX11_dismiss_7 (by decide) (fun c_8 => ?_) (fun c_8 => ?_)
      · skip
        have c_8' : v3_2.toInt ≥ 12 := jb_ge (rfl) ((by decide)) c_8
        have hsz_9 := hh_2.2.2.2.2.2.1
        have htt_9 := hh_2.2.2.2.2.2.2.1
        refine W.room (fun hrc_9 hrs_9 => ?_)
        refine W.widen (k := LC - s.heap.size) (n := LS - jTot s.heap) (by omega) (by omega) ?_
        rw [hQ]
        exact W.vret hx hb hr (fun t ht hW => ⟨⟨(wc_2, wz_2, wr_2, m_wr_2, Gx_2), rfl, by (try dsimp only); exact ⟨(by first | omega | rfl | assumption | fail), (by first | omega | rfl | assumption | fail), (by first | omega | rfl | assumption | fail), (by first | omega | rfl | assumption | fail), (by first | assumption | fail | omega), (by first | omega | rfl | assumption | fail)⟩, ⟨hh_2.ra (by first | omega | (simp only; omega)) (by first | omega | (simp only; omega)) (M1 := [(bo, 2, 1, .int wc_2), (op, 1, 2, .int wz_2), (bo, 2, 0, .ref wr_2)]) [0, 2, 1] rfl ht, hg_wr_2, hN_2, by rw [ht]; exact hh_2.iv 0 rfl, by rw [ht]; exact hh_2.2.2.2.2.2.2.2.2.sub (L1 := [(jFy, jYb dC dI Gx_2), (jFl, jLs dC dI ca Gx_2 3 none)]) [1, 2] rfl⟩⟩, by rw [ht]; try exact hh_2.1.1, fun q h9 hq => by rw [ht]; try exact hh_2.1.2.1 q h9 hq⟩) hh_2.1.2.2 dX11_dismiss_75
      · skip
        have c_8' : v3_2.toInt < 12 := jb_ge_n (rfl) ((by decide)) c_8
        refine lv_iload_n hx hb dX11_dismiss_10 rfl (lv_at hl 2 rfl) ?_
        refine lv_aload_n hx hb dX11_dismiss_11 rfl (lv_at hl 0 rfl) ?_
        obtain ⟨v_10, hv_10, hh_11⟩ := hh_2.pin (C := RX11) (T := TX11) (N := 19) hB13 rfl (by decide) hg_3 (i := 8) (by decide) rfl
        clear hh_2
        obtain ⟨waiting_12, rfl, hg_waiting_12⟩ := hv_10
        refine j7_read hx hb hown hK (C := RX11) (T := TX11) (N := 19) rfl hly_13_8 hlk_65 (hh_11.at 0 rfl) dX11_dismiss_12 ?_
        obtain ⟨v_15, hv_15, hh_16⟩ := hh_11.pin (C := RJx4a65c) (T := TJx4a65c) (N := 3) hB1 rfl (by decide) hg_waiting_12 (i := 2) (by decide) rfl
        obtain ⟨size_17, rfl, hlosize_17, hhisize_17⟩ := hv_15
        have hsz_13 := hh_16.2.2.2.2.2.1
        have htt_13 := hh_16.2.2.2.2.2.2.1
        refine W.room (fun hrc_13 hrs_13 => ?_)
        refine va_callFi (A0 := jA base) (H0 := s.heap) (va_runF (hK.1 1 _ rfl).2 (As := []) (rest := [.int v2_2]) ⟨hx, hb, hml, hown, hts⟩ (uJx4a65c_size_8abf5 l dC dI ca base B hB hAp hB1 Gx_2 H_2 waiting_12 2 size_17) (va_cwF 0 hts (jgF (jWr_27 _ (List.mem_of_getElem? (i := 22) rfl)) (jWr_27 _ (List.mem_of_getElem? (i := 23) rfl)) (jWr_28 _ (List.mem_of_getElem? (i := 0) rfl)) (jWr_2 _ (List.mem_of_getElem? (i := 13) rfl)) (jWr_28 _ (List.mem_of_getElem? (i := 1) rfl))) rfl rfl rfl hK7.2.2.2.2.2.1.1 ⟨by decide, by decide, by decide +kernel⟩ ⟨by rw [← hR]; exact Nat.le_of_ble_eq_true rfl, by rw [← hR]; exact Nat.le_of_ble_eq_true rfl⟩) ⟨fun a U g mk q => by obtain ⟨q0, q1, q2, qK, q10, q11, q12⟩ := q; exact ⟨q0, q1, q2, jG.calling g mk a qK, q10, q11, q12⟩, hh_16.recv (C := RJx4a65c) (T := TJx4a65c) (N := 3) hB1 rfl (by decide) hg_waiting_12 hK, fun U hU hW => ⟨rfl, hU, hh_16.2.1, hG.step hW hU hh_16.1, hg_waiting_12, (hh_16.2.2.1.sub (L1 := [(waiting_12, 1, 2, .int size_17)]) [0] rfl), trivial⟩⟩ rfl rfl hl.1 rfl (lv_room (Nat.le_of_ble_eq_true rfl)) dX11_dismiss_15 ⟨by rw [hRc]; show _ + 0 ≤ _; omega, by rw [hRs]; show _ + 0 ≤ _; omega⟩) hh_16.1 (fun q _ h => h) (fun q h => h) (fun r_14 u_13 t_13 H_13 locs_13 ht_13 hvm_13 hr_14 hb_13 hz_13 hk_13 hS_13 => ?_)
        rw [ht_13] at hb_13
        obtain ⟨hb_131, hb_132, hb_133, hb_134, hb_135⟩ := hb_13
        have hh_13 : jSt (dC, dI) B base G0 Gx_2 EX11_dismiss s.heap zcx_2 zsx_2 [(waiting_12, 1, 2, .int size_17), (r0, 13, 8, .ref waiting_12), (bo, 2, 1, .int wc_2), (bo, 2, 0, .ref wr_2), (op, 1, 2, .int wz_2), (r0, 13, 4, .ref bo), (r0, 13, 3, .ref ou), (r0, 13, 7, .ref op)] [] [([(2, 0), (2, 1)], jOl (dC, dI) G0 2 [bo, ou] s.heap), (jFy, jYb dC dI Gx_2), (jFl, jLs dC dI ca Gx_2 3 none)] H_13 locs_13 := ((hh_16.call hb_131 hb_132 hb_133 hb_134 hS_13 rfl (L1 := [(waiting_12, 1, 2, .int size_17), (r0, 13, 8, .ref waiting_12), (bo, 2, 1, .int wc_2), (bo, 2, 0, .ref wr_2), (op, 1, 2, .int wz_2), (r0, 13, 4, .ref bo), (r0, 13, 3, .ref ou), (r0, 13, 7, .ref op)]) [0, 1, 2, 3, 4, 5, 6, 7] rfl rfl (M1 := []) [] rfl rfl (I1 := [([(2, 0), (2, 1)], jOl (dC, dI) G0 2 [bo, ou] s.heap), (jFy, jYb dC dI Gx_2), (jFl, jLs dC dI ca Gx_2 3 none)]) [0, 1, 2] rfl rfl).more hb_135)
        clear hh_16 ht_13 hvm_13 hz_13 hk_13 hS_13 hb_131 hb_132 hb_133 hb_134 hb_135
        refine lv_icmp_ge (tgt := 75) hx hb dX11_dismiss_20 (by decide) (fun c_18 => ?_) (fun c_18 => ?_)
        · skip
          have c_18' : v2_2.toInt ≥ r_14.toInt := jb_ge (rfl) (rfl) c_18
          have hsz_19 := hh_13.2.2.2.2.2.1
          have htt_19 := hh_13.2.2.2.2.2.2.1
          refine W.room (fun hrc_19 hrs_19 => ?_)
          refine W.widen (k := LC - s.heap.size) (n := LS - jTot s.heap) (by omega) (by omega) ?_
          rw [hQ]
          exact W.vret hx hb hr (fun t ht hW => ⟨⟨(wc_2, wz_2, wr_2, m_wr_2, Gx_2), rfl, by (try dsimp only); exact ⟨(by first | omega | rfl | assumption | fail), (by first | omega | rfl | assumption | fail), (by first | omega | rfl | assumption | fail), (by first | omega | rfl | assumption | fail), (by first | assumption | fail | omega), (by first | omega | rfl | assumption | fail)⟩, ⟨hh_13.ra (by first | omega | (simp only; omega)) (by first | omega | (simp only; omega)) (M1 := [(bo, 2, 1, .int wc_2), (op, 1, 2, .int wz_2), (bo, 2, 0, .ref wr_2)]) [2, 4, 3] rfl ht, hg_wr_2, hN_2, by rw [ht]; exact hh_13.iv 0 rfl, by rw [ht]; exact hh_13.2.2.2.2.2.2.2.2.sub (L1 := [(jFy, jYb dC dI Gx_2), (jFl, jLs dC dI ca Gx_2 3 none)]) [1, 2] rfl⟩⟩, by rw [ht]; try exact hh_13.1.1, fun q h9 hq => by rw [ht]; try exact hh_13.1.2.1 q h9 hq⟩) hh_13.1.2.2 dX11_dismiss_75
        · skip
          have c_18' : v2_2.toInt < r_14.toInt := jb_ge_n (rfl) (rfl) c_18
          refine lv_aload_n hx hb dX11_dismiss_23 rfl (lv_at hl 0 rfl) ?_
          refine j7_read hx hb hown hK (C := RX11) (T := TX11) (N := 19) rfl hly_13_8 hlk_65 (hh_13.at 1 rfl) dX11_dismiss_24 ?_
          refine lv_iload_n hx hb dX11_dismiss_27 rfl (lv_at hl 2 rfl) ?_
          have hsz_20 := hh_13.2.2.2.2.2.1
          have htt_20 := hh_13.2.2.2.2.2.2.1
          refine W.room (fun hrc_20 hrs_20 => ?_)
          refine j_callFx (A0 := jA base) (H0 := s.heap) (va_runF (hK.1 1 _ rfl).2 (As := [.int v2_2]) (rest := []) ⟨hx, hb, hml, hown, hts⟩ (uJx4a65c_get_915e3L2 l dC dI ca base B hB hAp hB1 hB10 hB222 Gx_2 H_13 waiting_12 v2_2 size_17) (va_cwF 1 hts (jgF (jWr_28 _ (List.mem_of_getElem? (i := 3) rfl)) (jWr_28 _ (List.mem_of_getElem? (i := 4) rfl)) (jWr_28 _ (List.mem_of_getElem? (i := 5) rfl)) (jWr_2 _ (List.mem_of_getElem? (i := 13) rfl)) (jWr_28 _ (List.mem_of_getElem? (i := 6) rfl))) rfl rfl rfl hK7.2.2.2.2.2.1.2.1 ⟨by decide, by decide, by decide +kernel⟩ ⟨by rw [← hR]; exact Nat.le_of_ble_eq_true rfl, by rw [← hR]; exact Nat.le_of_ble_eq_true rfl⟩) ⟨fun a U g mk q => by obtain ⟨q0, q1, q2, qK, q10, q11, q12, q13, q14⟩ := q; exact ⟨q0, q1, q2, jG.calling g mk a qK, (jK7.calling g mk a q10), q11, q12, q13, q14⟩, hh_13.recv (C := RJx4a65c) (T := TJx4a65c) (N := 3) hB1 rfl (by decide) hg_waiting_12 hK, fun U hU hW => ⟨rfl, hU, hh_13.2.1, hG.step hW hU hh_13.1, (hK7.step hW hU hh_13.1), hg_waiting_12, (hh_13.2.2.1.sub (L1 := [(waiting_12, 1, 2, .int size_17)]) [0] rfl), (hh_13.2.2.2.2.2.2.2.2.sub (L1 := [(jFl, jLs dC dI ca Gx_2 3 none)]) [2] rfl), ⟨(by first | omega | rfl | assumption | fail), (by first | omega | rfl | assumption | fail)⟩⟩⟩ rfl rfl hl.1 rfl (lv_room (Nat.le_of_ble_eq_true rfl)) dX11_dismiss_28 ⟨by rw [hRc]; show _ + 0 ≤ _; omega, by rw [hRs]; show _ + 0 ≤ _; omega⟩) hh_13.1 (fun q _ h => h) (fun q h => h) (fun r_21 u_20 t_20 H_20 locs_20 ht_20 hvm_20 hr_21 hb_20 hz_20 hk_20 hS_20 => ?_)
          rw [ht_20] at hb_20
          obtain ⟨hb_20, hbE_20⟩ := hb_20
          obtain ⟨hb_201, hb_202, hb_203, hb_204, hb_205⟩ := hb_20
          have hh_20 : jSt (dC, dI) B base G0 Gx_2 EX11_dismiss s.heap zcx_2 zsx_2 [(waiting_12, 1, 2, .int size_17), (r0, 13, 8, .ref waiting_12), (bo, 2, 1, .int wc_2), (bo, 2, 0, .ref wr_2), (op, 1, 2, .int wz_2), (r0, 13, 4, .ref bo), (r0, 13, 3, .ref ou), (r0, 13, 7, .ref op)] [] [(jFl, jLs dC dI ca Gx_2 3 none), ([(2, 0), (2, 1)], jOl (dC, dI) G0 2 [bo, ou] s.heap), (jFy, jYb dC dI Gx_2)] H_20 locs_20 := (((hh_13.call hb_201 hb_202 hb_203 hb_204 hS_20 rfl (L1 := [(waiting_12, 1, 2, .int size_17), (r0, 13, 8, .ref waiting_12), (bo, 2, 1, .int wc_2), (bo, 2, 0, .ref wr_2), (op, 1, 2, .int wz_2), (r0, 13, 4, .ref bo), (r0, 13, 3, .ref ou), (r0, 13, 7, .ref op)]) [0, 1, 2, 3, 4, 5, 6, 7] rfl rfl (M1 := []) [] rfl rfl (I1 := [([(2, 0), (2, 1)], jOl (dC, dI) G0 2 [bo, ou] s.heap), (jFy, jYb dC dI Gx_2)]) [0, 1] rfl rfl).more hb_205)).addIs hbE_20
          clear hh_13 ht_20 hvm_20 hz_20 hk_20 hS_20 hb_201 hb_202 hb_203 hb_204 hb_205
          clear  hbE_20
          obtain ⟨ret_22, rfl, hg_ret_22⟩ := hr_21
          refine va_castY hx hb hown (htw (.classLink RX11 115 "ProofServer$Request") (jWr_42 _ (List.mem_of_getElem? (i := 5) rfl))) hK7.2.2.1.2.1.2 (hh_20.recv (C := RX8) (T := TX8) (N := 5) hB10 rfl (by decide) hg_ret_22 hK) dX11_dismiss_33 ?_
          obtain ⟨v_23, hv_23, hh_24⟩ := hh_20.pin (C := RX8) (T := TX8) (N := 5) hB10 rfl (by decide) hg_ret_22 (i := 1) (by decide) rfl
          clear hh_20
          rcases hv_23 with rfl | ⟨about_25, rfl, hg_about_25⟩
          · refine j7_read hx hb hown hK (C := RX8) (T := TX8) (N := 5) rfl hly_10_1 hlk_432 (hh_24.at 0 rfl) dX11_dismiss_36 ?_
            refine lv_aload_n hx hb dX11_dismiss_39 rfl (lv_at hl 1 rfl) ?_
            refine lv_acmp_ne (rx := none) (ry := (some r1)) (tgt := 66) hx hb dX11_dismiss_40 (by decide) (fun c_26 => ?_) (fun c_26 => ?_)
            · skip
              obtain ⟨z_27, ez_27⟩ : ∃ y : Int32, y = v2_2 + 1 := ⟨_, rfl⟩
              refine lv_iinc (v := z_27) (lv' := [(2, .int z_27), (0, .ref r0), (1, .ref r1), (3, .int v3_2)]) hx hb dX11_dismiss_66 hl (k := 2) rfl (by rw [ez_27]; rfl) (by decide) rfl (fun ls hl => ?_)
              have hz_27 : z_27.toInt = v2_2.toInt + 1 := by rw [ez_27]; exact jb_iadd2 (rfl) (by decide) (by omega)
              obtain ⟨z_28, ez_28⟩ : ∃ y : Int32, y = v3_2 + 1 := ⟨_, rfl⟩
              refine lv_iinc (v := z_28) (lv' := [(3, .int z_28), (2, .int z_27), (0, .ref r0), (1, .ref r1)]) hx hb dX11_dismiss_69 hl (k := 3) rfl (by rw [ez_28]; rfl) (by decide) rfl (fun ls hl => ?_)
              have hz_28 : z_28.toInt = v3_2.toInt + 1 := by rw [ez_28]; exact jb_iadd2 (rfl) (by decide) (by omega)
              refine lv_goto (tgt := 4) hx hb dX11_dismiss_72 (by decide) ?_
              refine W.tight (c2 := zcx_2) (n2 := zsx_2) hh_24.2.2.2.2.2.1 hh_24.2.2.2.2.2.2.1 ?_
              exact L4 Gx_2 zcx_2 zsx_2 z_27 z_28 wc_2 wr_2 m_wr_2 wz_2 _ _ (hh_24.sub (L1 := [(bo, 2, 1, .int wc_2), (bo, 2, 0, .ref wr_2), (op, 1, 2, .int wz_2), (r0, 13, 4, .ref bo), (r0, 13, 3, .ref ou), (r0, 13, 7, .ref op)]) [3, 4, 5, 6, 7, 8] rfl (M1 := []) [] rfl (I1 := [([(2, 0), (2, 1)], jOl (dC, dI) G0 2 [bo, ou] s.heap), (jFy, jYb dC dI Gx_2), (jFl, jLs dC dI ca Gx_2 3 none)]) [1, 2, 0] rfl) (hN_2) (hle_2) hg_wr_2 (⟨(by first | omega | rfl | assumption | fail), (by first | omega | rfl | assumption | fail), (by first | omega | rfl | assumption | fail), (by first | omega | rfl | assumption | fail), (by first | assumption | fail | omega), (by first | omega | rfl | assumption | fail), (by first | omega | rfl | assumption | fail), (by first | omega | rfl | assumption | fail), (by first | omega | rfl | assumption | fail), (by first | omega | rfl | assumption | fail), (by first | omega | rfl | assumption | fail)⟩) (by omega) _ (lv_sub hl [2, 3, 1, 0] rfl)
            · skip
              cases c_26
          · refine j7_read hx hb hown hK (C := RX8) (T := TX8) (N := 5) rfl hly_10_1 hlk_432 (hh_24.at 0 rfl) dX11_dismiss_36 ?_
            refine lv_aload_n hx hb dX11_dismiss_39 rfl (lv_at hl 1 rfl) ?_
            refine lv_acmp_ne (rx := (some about_25)) (ry := (some r1)) (tgt := 66) hx hb dX11_dismiss_40 (by decide) (fun c_29 => ?_) (fun c_29 => ?_)
            · skip
              obtain ⟨z_30, ez_30⟩ : ∃ y : Int32, y = v2_2 + 1 := ⟨_, rfl⟩
              refine lv_iinc (v := z_30) (lv' := [(2, .int z_30), (0, .ref r0), (1, .ref r1), (3, .int v3_2)]) hx hb dX11_dismiss_66 hl (k := 2) rfl (by rw [ez_30]; rfl) (by decide) rfl (fun ls hl => ?_)
              have hz_30 : z_30.toInt = v2_2.toInt + 1 := by rw [ez_30]; exact jb_iadd2 (rfl) (by decide) (by omega)
              obtain ⟨z_31, ez_31⟩ : ∃ y : Int32, y = v3_2 + 1 := ⟨_, rfl⟩
              refine lv_iinc (v := z_31) (lv' := [(3, .int z_31), (2, .int z_30), (0, .ref r0), (1, .ref r1)]) hx hb dX11_dismiss_69 hl (k := 3) rfl (by rw [ez_31]; rfl) (by decide) rfl (fun ls hl => ?_)
              have hz_31 : z_31.toInt = v3_2.toInt + 1 := by rw [ez_31]; exact jb_iadd2 (rfl) (by decide) (by omega)
              refine lv_goto (tgt := 4) hx hb dX11_dismiss_72 (by decide) ?_
              refine W.tight (c2 := zcx_2) (n2 := zsx_2) hh_24.2.2.2.2.2.1 hh_24.2.2.2.2.2.2.1 ?_
              exact L4 Gx_2 zcx_2 zsx_2 z_30 z_31 wc_2 wr_2 m_wr_2 wz_2 _ _ (hh_24.sub (L1 := [(bo, 2, 1, .int wc_2), (bo, 2, 0, .ref wr_2), (op, 1, 2, .int wz_2), (r0, 13, 4, .ref bo), (r0, 13, 3, .ref ou), (r0, 13, 7, .ref op)]) [3, 4, 5, 6, 7, 8] rfl (M1 := []) [] rfl (I1 := [([(2, 0), (2, 1)], jOl (dC, dI) G0 2 [bo, ou] s.heap), (jFy, jYb dC dI Gx_2), (jFl, jLs dC dI ca Gx_2 3 none)]) [1, 2, 0] rfl) (hN_2) (hle_2) hg_wr_2 (⟨(by first | omega | rfl | assumption | fail), (by first | omega | rfl | assumption | fail), (by first | omega | rfl | assumption | fail), (by first | omega | rfl | assumption | fail), (by first | assumption | fail | omega), (by first | omega | rfl | assumption | fail), (by first | omega | rfl | assumption | fail), (by first | omega | rfl | assumption | fail), (by first | omega | rfl | assumption | fail), (by first | omega | rfl | assumption | fail), (by first | omega | rfl | assumption | fail)⟩) (by omega) _ (lv_sub hl [2, 3, 1, 0] rfl)
            · skip
              refine lv_aload_n hx hb dX11_dismiss_43 rfl (lv_at hl 0 rfl) ?_
              refine lv_aload_n hx hb dX11_dismiss_44 rfl (lv_at hl 0 rfl) ?_
              refine j7_read hx hb hown hK (C := RX11) (T := TX11) (N := 19) rfl hly_13_8 hlk_65 (hh_24.at 2 rfl) dX11_dismiss_45 ?_
              refine lv_iload_n hx hb dX11_dismiss_48 rfl (lv_at hl 2 rfl) ?_
              have hsz_32 := hh_24.2.2.2.2.2.1
              have htt_32 := hh_24.2.2.2.2.2.2.1
              refine W.room (fun hrc_32 hrs_32 => ?_)
              refine j_callFx (A0 := jA base) (H0 := s.heap) (va_runF (hK.1 1 _ rfl).2 (As := [.int v2_2]) (rest := [.ref r0]) ⟨hx, hb, hml, hown, hts⟩ (uJx4a65c_remove_915e3L2 l dC dI ca base B hB hAp hB1 hB10 hB222 Gx_2 H_20 waiting_12 v2_2 size_17) (va_cwF 1 hts (jgF (jWr_42 _ (List.mem_of_getElem? (i := 7) rfl)) (jWr_42 _ (List.mem_of_getElem? (i := 8) rfl)) (jWr_42 _ (List.mem_of_getElem? (i := 9) rfl)) (jWr_2 _ (List.mem_of_getElem? (i := 13) rfl)) (jWr_42 _ (List.mem_of_getElem? (i := 10) rfl))) rfl rfl rfl hK7.2.2.2.2.2.1.2.2.2 ⟨by decide, by decide, by decide +kernel⟩ ⟨by rw [← hR]; exact Nat.le_of_ble_eq_true rfl, by rw [← hR]; exact Nat.le_of_ble_eq_true rfl⟩) ⟨fun a U g mk q => by obtain ⟨q0, q1, q2, qK, q10, q11, q12, q13, q14⟩ := q; exact ⟨q0, q1, q2, jG.calling g mk a qK, (jK7.calling g mk a q10), q11, q12, q13, q14⟩, hh_24.recv (C := RJx4a65c) (T := TJx4a65c) (N := 3) hB1 rfl (by decide) hg_waiting_12 hK, fun U hU hW => ⟨rfl, hU, hh_24.2.1, hG.step hW hU hh_24.1, (hK7.step hW hU hh_24.1), hg_waiting_12, (hh_24.2.2.1.sub (L1 := [(waiting_12, 1, 2, .int size_17)]) [1] rfl), (hh_24.2.2.2.2.2.2.2.2.sub (L1 := [(jFl, jLs dC dI ca Gx_2 3 none)]) [0] rfl), ⟨(by first | omega | rfl | assumption | fail), (by first | omega | rfl | assumption | fail)⟩⟩⟩ rfl rfl hl.1 rfl (lv_room (Nat.le_of_ble_eq_true rfl)) dX11_dismiss_49 ⟨by rw [hRc]; show _ + 0 ≤ _; omega, by rw [hRs]; show _ + 0 ≤ _; omega⟩) hh_24.1 (fun q _ h => h) (fun q h => h) (fun r_33 u_32 t_32 H_32 locs_32 ht_32 hvm_32 hr_33 hb_32 hz_32 hk_32 hS_32 => ?_)
              obtain ⟨qz_32, rfl⟩ : ∃ z, z = u_32 := ⟨_, rfl⟩
              rw [ht_32] at hb_32
              obtain ⟨hb_32, hbE_32⟩ := hb_32
              obtain ⟨hb_32, hbO_32⟩ := hb_32
              obtain ⟨hb_321, hb_322, hb_323, hb_324, hb_325⟩ := hb_32
              have hh_32 : jSt (dC, dI) B base G0 Gx_2 EX11_dismiss s.heap zcx_2 zsx_2 [(waiting_12, 1, 2, .int qz_32), (ret_22, 10, 1, .ref about_25), (r0, 13, 8, .ref waiting_12), (bo, 2, 1, .int wc_2), (bo, 2, 0, .ref wr_2), (r0, 13, 4, .ref bo), (r0, 13, 3, .ref ou), (r0, 13, 7, .ref op)] [] [(jFl, jLs dC dI ca Gx_2 3 none), ([(2, 0), (2, 1)], jOl (dC, dI) G0 2 [bo, ou] s.heap), (jFy, jYb dC dI Gx_2)] H_32 locs_32 := (((hh_24.call hb_321 hb_322 hb_323 hb_324 hS_32 rfl (L1 := [(ret_22, 10, 1, .ref about_25), (r0, 13, 8, .ref waiting_12), (bo, 2, 1, .int wc_2), (bo, 2, 0, .ref wr_2), (r0, 13, 4, .ref bo), (r0, 13, 3, .ref ou), (r0, 13, 7, .ref op)]) [0, 2, 3, 4, 6, 7, 8] rfl rfl (M1 := []) [] rfl rfl (I1 := [([(2, 0), (2, 1)], jOl (dC, dI) G0 2 [bo, ou] s.heap), (jFy, jYb dC dI Gx_2)]) [1, 2] rfl rfl).more hb_325)).addIs hbE_32
              have hh_34 := hh_32.more (P1 := [(op, 1, 2, .int wz_2)]) (jP.cons hg_7 (hbO_32 _ _ _ _ (by first | assumption | exact Ne.symm (by assumption) | exact jnek hg_7 hg_waiting_12 (by decide)) hg_7 (hh_24.at 5 rfl)) jP.nil)
              clear hh_24 ht_32 hvm_32 hz_32 hk_32 hS_32 hb_321 hb_322 hb_323 hb_324 hb_325
              clear  hbE_32
              obtain ⟨hr_33, hr_33p⟩ := hr_33
              obtain ⟨ret_35, rfl, hg_ret_35⟩ := hr_33
              refine va_castY hx hb hown (htw (.classLink RX11 115 "ProofServer$Request") (jWr_42 _ (List.mem_of_getElem? (i := 5) rfl))) hK7.2.2.1.2.1.2 (hh_34.recv (C := RX8) (T := TX8) (N := 5) hB10 rfl (by decide) hg_ret_35 hK) dX11_dismiss_54 ?_
              refine lv_ldcw hx hb hown hcs_459 dX11_dismiss_57 ?_
              have hsz_36 := hh_34.2.2.2.2.2.1
              have htt_36 := hh_34.2.2.2.2.2.2.1
              refine W.room (fun hrc_36 hrs_36 => ?_)
              refine va_callv (A0 := jA base) (H0 := s.heap) (va_runV (As := [.ref ret_35, .int (-32801)]) (rest := []) ⟨hx, hb, hml, hown, hts⟩ (uX11_refuse l dC dI ca base B hB hAp hB2 hB4 hB10 hB13 hB196 Gx_2 H_32 r0 ret_35 (-32801) bo wc_2 wr_2 m_wr_2 ou LC LS) (cwV 2 hts (jgV (jWr_26 _ (List.mem_of_getElem? (i := 3) rfl)) (jWr_26 _ (List.mem_of_getElem? (i := 4) rfl)) (jWr_26 _ (List.mem_of_getElem? (i := 5) rfl)) (jWr_1 _ (List.mem_of_getElem? (i := 2) rfl)) (jWr_26 _ (List.mem_of_getElem? (i := 6) rfl))) rfl rfl rfl (by decide +kernel) ⟨by rw [← hR]; exact Nat.le_of_ble_eq_true rfl, by rw [← hR]; exact Nat.le_of_ble_eq_true rfl⟩) ⟨fun a U g mk q => by obtain ⟨q0, q1, q2, qK, q10, q11, q12, q13, q14, q15, q16, q17⟩ := q; exact ⟨q0, q1, q2, jG.calling g mk a qK, q10, q11, q12, q13, q14, q15, q16, q17⟩, hh_34.recv (C := RX11) (T := TX11) (N := 19) hB13 rfl (by decide) hg_3 hK, fun U hU hW => ⟨rfl, hU, hh_34.2.1, hG.step hW hU hh_34.1, hg_ret_35, hg_3, hg_5, hg_wr_2, hg_6, (hh_34.2.2.1.sub (L1 := [(r0, 13, 4, .ref bo), (bo, 2, 1, .int wc_2), (bo, 2, 0, .ref wr_2), (r0, 13, 3, .ref ou)]) [6, 4, 5, 7] rfl), (hh_34.2.2.2.2.2.2.2.2.sub (L1 := [(jFy, jYb dC dI Gx_2)]) [2] rfl), (by omega), (by omega), ⟨(by first | omega | rfl | assumption | fail), (by first | omega | rfl | assumption | fail), (by first | omega | rfl | assumption | fail), (by first | omega | rfl | assumption | fail), (by first | assumption | fail | omega)⟩⟩⟩ rfl rfl hl.1 rfl (lv_room (Nat.le_of_ble_eq_true rfl)) dX11_dismiss_60 ⟨by rw [hRc]; omega, by rw [hRs]; omega⟩) hh_34.1 (fun q _ h => h) (fun q h => h) (fun u_36 t_36 H_36 locs_36 ht_36 hvm_36 hr_37 hb_36 hz_36 hk_36 hS_36 => ?_)
              obtain ⟨qc_36, qa_36, m_qa_36, G_36⟩ := u_36
              rw [ht_36] at hb_36
              simp only at hb_36
              obtain ⟨⟨hb_361, hb_362, hb_363, hb_364, hb_365, hb_366⟩, hgq_36_0, hN_36, hbO_36, hbE_36⟩ := hb_36
              have hh_36 : jSt (dC, dI) B base G0 G_36 EX11_dismiss s.heap (zcx_2 + ((m_qa_36 - m_wr_2) / 16)) (zsx_2 + (2 * (m_qa_36 - m_wr_2))) [(bo, 2, 1, .int qc_36), (bo, 2, 0, .ref qa_36), (op, 1, 2, .int wz_2), (waiting_12, 1, 2, .int qz_32), (ret_22, 10, 1, .ref about_25), (r0, 13, 8, .ref waiting_12), (r0, 13, 4, .ref bo), (r0, 13, 3, .ref ou), (r0, 13, 7, .ref op)] [] [(jFl, jLs dC dI ca Gx_2 3 none)] H_36 locs_36 := (hh_34.callG hb_361 hb_362 hb_363 hb_364 hb_365 hS_36 rfl (L1 := [(op, 1, 2, .int wz_2), (waiting_12, 1, 2, .int qz_32), (ret_22, 10, 1, .ref about_25), (r0, 13, 8, .ref waiting_12), (r0, 13, 4, .ref bo), (r0, 13, 3, .ref ou), (r0, 13, 7, .ref op)]) [0, 1, 2, 3, 6, 7, 8] rfl rfl (M1 := []) [] rfl rfl (I1 := [(jFl, jLs dC dI ca Gx_2 3 none)]) [0] rfl rfl).more hb_366
              have hNn_36 : (jNk [0, 1, 2, 3, 4, 5, 6, 7, 8, 9, 10, 11, 12, 13, 14, 15, 16]) G0 G_36 := (hN_2).tr hN_36
              have hg_38 := hb_362 _ _ hg_3
              have hg_39 := hb_362 _ _ hg_4
              have hg_40 := hb_362 _ _ hg_about_25
              have hg_41 := hb_362 _ _ hg_waiting_12
              have hg_42 := hb_362 _ _ hg_5
              have hg_43 := hb_362 _ _ hg_6
              have hg_44 := hb_362 _ _ hg_7
              have hd_45 := jLs.grow (hh_36.iv 0 rfl) hb_362 hN_36 (by decide)
              have hh_46 := hh_36.sub (L1 := [(bo, 2, 1, .int qc_36), (bo, 2, 0, .ref qa_36), (op, 1, 2, .int wz_2), (waiting_12, 1, 2, .int qz_32), (ret_22, 10, 1, .ref about_25), (r0, 13, 8, .ref waiting_12), (r0, 13, 4, .ref bo), (r0, 13, 3, .ref ou), (r0, 13, 7, .ref op)]) [0, 1, 2, 3, 4, 5, 6, 7, 8] rfl (M1 := []) [] rfl (I1 := []) [] rfl
              clear hh_36
              have hh_47 := hh_46.addI (jLs.ie hd_45)
              clear hh_46
              have hh_48 := hh_47.addIs hbE_36
              have hd_49 := jOl.trL (hh_34.iv 1 rfl) hh_34.2.2.2.2.1 hbO_36 (by simp)
              have hh_50 := hh_48.addI (jOl.ie (dC := dC) (dI := dI) (G0 := G0) (k := 2) (rs := [bo, ou]) (H0 := s.heap) (F := [(2, 0), (2, 1)]) (C := RX0) (T := TX0) (N := 2) rfl (by decide) hh_48.2.2.2.2.1 (hd_49))
              clear hh_48
              try simp only at hr_37
              obtain ⟨hr_37_0, hr_37_1, hr_37_2, hr_37_3, hr_37_4⟩ := hr_37
              have hh_51 := hh_50.wk (zc1 := (m_qa_36 - n_pa) / 16) (zs1 := 2 * (m_qa_36 - n_pa)) (by omega) (by omega)
              clear hh_50
              try clear hsz_36 htt_36 hrc_36 hrs_36
              try clear hb_364 hb_365
              refine lv_goto (tgt := 69) hx hb dX11_dismiss_63 (by decide) ?_
              obtain ⟨z_52, ez_52⟩ : ∃ y : Int32, y = v3_2 + 1 := ⟨_, rfl⟩
              refine lv_iinc (v := z_52) (lv' := [(3, .int z_52), (0, .ref r0), (1, .ref r1), (2, .int v2_2)]) hx hb dX11_dismiss_69 hl (k := 3) rfl (by rw [ez_52]; rfl) (by decide) rfl (fun ls hl => ?_)
              have hz_52 : z_52.toInt = v3_2.toInt + 1 := by rw [ez_52]; exact jb_iadd2 (rfl) (by decide) (by omega)
              refine lv_goto (tgt := 4) hx hb dX11_dismiss_72 (by decide) ?_
              refine W.tight (c2 := ((m_qa_36 - n_pa) / 16)) (n2 := (2 * (m_qa_36 - n_pa))) hh_51.2.2.2.2.2.1 hh_51.2.2.2.2.2.2.1 ?_
              exact L4 G_36 ((m_qa_36 - n_pa) / 16) (2 * (m_qa_36 - n_pa)) v2_2 z_52 qc_36 qa_36 m_qa_36 wz_2 _ _ (hh_51.sub (L1 := [(bo, 2, 1, .int qc_36), (bo, 2, 0, .ref qa_36), (op, 1, 2, .int wz_2), (r0, 13, 4, .ref bo), (r0, 13, 3, .ref ou), (r0, 13, 7, .ref op)]) [0, 1, 2, 6, 7, 8] rfl (M1 := []) [] rfl (I1 := [([(2, 0), (2, 1)], jOl (dC, dI) G0 2 [bo, ou] s.heap), (jFy, jYb dC dI G_36), (jFl, jLs dC dI ca G_36 3 none)]) [0, 1, 2] rfl) (hNn_36) ((hle_2).tr hb_362) hgq_36_0 (⟨(by first | omega | rfl | assumption | fail), (by first | omega | rfl | assumption | fail), (by first | omega | rfl | assumption | fail), (by first | omega | rfl | assumption | fail), (by first | assumption | fail | omega), (by first | omega | rfl | assumption | fail), (by first | omega | rfl | assumption | fail), (by first | omega | rfl | assumption | fail), (by first | omega | rfl | assumption | fail), (by first | omega | rfl | assumption | fail), (by first | omega | rfl | assumption | fail)⟩) (by omega) _ (lv_sub hl [1, 2, 3, 0] rfl)
  refine W.tight (c2 := 0) (n2 := 0) hh_1.2.2.2.2.2.1 hh_1.2.2.2.2.2.2.1 ?_
  exact L4 (12 - (0 : Int32).toInt : Int).toNat.succ G0 0 0 0 0 pc pa n_pa sz _ _ (hh_1.sub (L1 := [(bo, 2, 1, .int pc), (bo, 2, 0, .ref pa), (op, 1, 2, .int sz), (r0, 13, 4, .ref bo), (r0, 13, 3, .ref ou), (r0, 13, 7, .ref op)]) [1, 2, 5, 0, 3, 4] rfl (M1 := []) [] rfl (I1 := [([(2, 0), (2, 1)], jOl (dC, dI) G0 2 [bo, ou] s.heap), (jFy, jYb dC dI G0), (jFl, jLs dC dI ca G0 3 none)]) [0, 1, 2] rfl) (jNk.rf) (jLe.rf) hg_pa (⟨(by first | omega | rfl | assumption | fail), (by first | omega | rfl | assumption | fail), (by first | omega | rfl | assumption | fail), (by first | omega | rfl | assumption | fail), (by first | assumption | fail | omega), (by first | omega | rfl | assumption | fail), (by first | omega | rfl | assumption | fail), (by first | omega | rfl | assumption | fail), (by first | omega | rfl | assumption | fail), (by first | omega | rfl | assumption | fail), (by first | omega | rfl | assumption | fail)⟩) (by omega) _ (lv_sub hl [2, 3, 1, 0] rfl)
set_option maxHeartbeats 4000000 in
set_option maxRecDepth 20000 in
theorem uX11_answerOrWait (l : Launch) (dC : Nat → ClassId) (dI : Nat → Nat → Nat) (ca : Nat → ClassId) (base : Nat) (B : jF) (hB : jBok B) (hAp : jAp (dC, dI)) (hB1 : ∀ n G a H, B 1 n G a H ↔ jOb (dC, dI) 1 3 (F1 n G) a H) (hB2 : ∀ n G a H, B 2 n G a H ↔ jOb (dC, dI) 2 2 (F2 n G) a H) (hB3 : ∀ n G a H, B 3 n G a H ↔ jOb (dC, dI) 3 17 (F3 n G) a H) (hB4 : ∀ n G a H, B 4 n G a H ↔ jOb (dC, dI) 4 12 (F4 n G) a H) (hB5 : ∀ n G a H, B 5 n G a H ↔ jOb (dC, dI) 5 4 (F5 n G) a H) (hB7 : ∀ n G a H, B 7 n G a H ↔ jOb (dC, dI) 7 11 (F7 n G) a H) (hB8 : ∀ n G a H, B 8 n G a H ↔ jOb (dC, dI) 8 4 (F8 n G) a H) (hB9 : ∀ n G a H, B 9 n G a H ↔ jOb (dC, dI) 9 5 (F9b n G) a H) (hB10 : ∀ n G a H, B 10 n G a H ↔ jOb (dC, dI) 10 5 (F10 n G) a H) (hB11 : ∀ n G a H, B 11 n G a H ↔ jOb (dC, dI) 11 9 (F11 n G) a H) (hB13 : ∀ n G a H, B 13 n G a H ↔ jOb (dC, dI) 13 19 (F13 n G) a H) (hB101 : ∀ n G a H, B 101 n G a H ↔ jAr (dC, dI) (ca 1) (fun j z => True) n a H) (hB102 : ∀ n G a H, B 102 n G a H ↔ jAl (dC, dI) (ca 2) n a H) (hB132 : ∀ n G a H, B 132 n G a H ↔ jAr (dC, dI) (ca 1) (fun j z => 0 ≤ z.toInt ∧ z.toInt ≤ 10) n a H) (hB196 : ∀ n G a H, B 196 n G a H ↔ jAr (dC, dI) (ca 0) (fun j z => jBf j z) n a H) (hB210 : ∀ n G a H, B 210 n G a H ↔ jAq (dC, dI) (ca 6) (jQn 11 0) n G a H) (hB214 : ∀ n G a H, B 214 n G a H ↔ jAq (dC, dI) (ca 7) (jQg) n G a H) (hB222 : ∀ n G a H, B 222 n G a H ↔ jAq (dC, dI) (ca 9) (jQn 10 0) n G a H) (hB280 : ∀ n G a H, B 280 n G a H ↔ jAr (dC, dI) (ca 1) (fun j z => -1 ≤ z.toInt) n a H) (hB286 : ∀ n G a H, B 286 n G a H ↔ jAr (dC, dI) (ca 1) (fun j z => (0 ≤ z.toInt ∨ z.toInt = -3)) n a H) (hB287 : ∀ n G a H, B 287 n G a H ↔ jAr (dC, dI) (ca 1) (fun j z => 0 ≤ z.toInt ∧ z.toInt ≤ 65535) n a H) (hB288 : ∀ n G a H, B 288 n G a H ↔ jAr (dC, dI) (ca 1) (fun j z => 0 ≤ z.toInt ∧ z.toInt ≤ 160) n a H) (hB313 : ∀ n G a H, B 313 n G a H ↔ jAq (dC, dI) (ca 8) (jQk 280 80) n G a H) (G0 : jT) (H0 : Heap) (r0 : Nat) (r1 : Nat) (a2 : Int32) (bo : Nat) (pc : Int32) (pa : Nat) (n_pa : Nat) (ou : Nat) (LC LS : Nat) : Met l yX11_answerOrWait (jw yX11_answerOrWait cX11_answerOrWait 3 none) ({ frames := 8, cells := LC - H0.size, slots := LS - jTot H0, locals := 241 }) (va_Pc [.ref r0, .ref r1, .int a2] (fun U => U.heap = H0 ∧ jX B base G0 [] H0 ∧ jG dC dI ca base U ∧ jK2 dC dI ca U ∧ jK5 dC dI ca U ∧ jK7 dC dI ca base U ∧ G0 r0 = some (13, 0) ∧ G0 r1 = some (10, 0) ∧ (a2 = 0 ∨ a2 = 1) ∧ G0 bo = some (2, 0) ∧ G0 pa = some (196, n_pa) ∧ G0 ou = some (2, 20000) ∧ jP (dC, dI) G0 H0 [(r0, 13, 4, .ref bo), (bo, 2, 1, .int pc), (bo, 2, 0, .ref pa), (r0, 13, 3, .ref ou)] ∧ jIs (dC, dI) G0 H0 [(jFy, jYb dC dI G0), (jFs11, jSef dC dI G0), (jFl, jLs dC dI ca G0 3 none)] ∧ H0.size + (1048576 - n_pa) / 16 + 2 ≤ LC ∧ jTot H0 + 2 * (1048576 - n_pa) + 40 ≤ LS ∧ 0 ≤ pc.toInt ∧ pc.toInt ≤ n_pa ∧ 16 ≤ n_pa ∧ n_pa ≤ 1048576 ∧ jPw n_pa)) (va_Qv (S := Int32 × Nat × Nat × jT) (fun u => 0 ≤ u.1.toInt ∧ u.1.toInt ≤ u.2.2.1 ∧ n_pa ≤ u.2.2.1 ∧ u.2.2.1 ≤ 1048576 ∧ jPw u.2.2.1) (fun u t => jRa (dC, dI) B base G0 u.2.2.2 EX11_answerOrWait H0 ((u.2.2.1 - n_pa) / 16 + 1) (2 * (u.2.2.1 - n_pa) + 40) [(bo, 2, 1, .int u.1), (bo, 2, 0, .ref u.2.1)] t.heap ∧ u.2.2.2 u.2.1 = some (196, u.2.2.1) ∧ (jNk [0, 1, 2, 3, 4, 5, 6, 7, 8, 9, 10, 11, 12, 13, 14, 15, 16]) G0 u.2.2.2 ∧ jOl (dC, dI) G0 2 [bo, ou] H0 t.heap ∧ jIs (dC, dI) u.2.2.2 t.heap [(jFy, jYb dC dI u.2.2.2), (jFs11, jSef dC dI u.2.2.2), (jFl, jLs dC dI ca u.2.2.2 3 none)]) (jA base)) (LC - H0.size) (LS - jTot H0) (jA base) := by
  refine Met.ofW (cc := cX11_answerOrWait) (maxL := 3) (ret := none) (by decide) rfl ?_
  intro p e s m args below meth c s₁ Bd hml hv
  obtain ⟨rfl, hH0, hX, hG, hK2, hK5, hK7, hg_r0, hg_r1, hz_a2, hg_bo, hg_pa, hg_ou, hP0, hI0, hLC0, hLS0, hp0, hp1, hp2, hp3, hp4⟩ := hv
  have hK := hG.1
  have hx := Bd.exec
  have hb := Bd.bytes
  have hr := Bd.returns
  have hts := atoms_spec (ws := (jw yX11_answerOrWait cX11_answerOrWait 3 none)) Bd.pre
  have htw : ∀ w ∈ jWl, w.before _ s = true := fun w h => hts w (List.mem_cons_of_mem _ h)
  have hown : s.vm.findClass RX11 = some m.cls := findClass_of_methodNamed Bd.named
  have hlocks := Bd.notSynchronized
  obtain ⟨Q, hQ⟩ : ∃ Q, Q = MQ below (va_Qv (S := Int32 × Nat × Nat × jT) (fun u => 0 ≤ u.1.toInt ∧ u.1.toInt ≤ u.2.2.1 ∧ n_pa ≤ u.2.2.1 ∧ u.2.2.1 ≤ 1048576 ∧ jPw u.2.2.1) (fun u t => jRa (dC, dI) B base G0 u.2.2.2 EX11_answerOrWait H0 ((u.2.2.1 - n_pa) / 16 + 1) (2 * (u.2.2.1 - n_pa) + 40) [(bo, 2, 1, .int u.1), (bo, 2, 0, .ref u.2.1)] t.heap ∧ u.2.2.2 u.2.1 = some (196, u.2.2.1) ∧ (jNk [0, 1, 2, 3, 4, 5, 6, 7, 8, 9, 10, 11, 12, 13, 14, 15, 16]) G0 u.2.2.2 ∧ jOl (dC, dI) G0 2 [bo, ou] H0 t.heap ∧ jIs (dC, dI) u.2.2.2 t.heap [(jFy, jYb dC dI u.2.2.2), (jFs11, jSef dC dI u.2.2.2), (jFl, jLs dC dI ca u.2.2.2 3 none)]) (jA base)) ([.ref r0, .ref r1, .int a2] : List Value).toArray s (LC - H0.size) (LS - jTot H0) (jA base) := ⟨_, rfl⟩
  rw [← hQ]
  have hl := lv_entry ([.ref r0, .ref r1, .int a2]) (n := 3) (Nat.le_of_ble_eq_true rfl)
  rw [lg_entry_eq]
  generalize (lg_sl ([.ref r0, .ref r1, .int a2]) ++ List.replicate (3 - (lg_sl ([.ref r0, .ref r1, .int a2])).length) Slot.unset).toArray = ls at hl ⊢
  have hl : lv_has ls 3 [(0, .ref r0), (1, .ref r1), (2, .int a2)] := hl
  generalize hR : (headSpec (jw yX11_answerOrWait cX11_answerOrWait 3 none) ({ frames := 8, cells := LC - H0.size, slots := LS - jTot H0, locals := 241 })).room = R
  subst hH0
  have hh : jSt (dC, dI) B base G0 G0 EX11_answerOrWait s.heap 0 0 [(r0, 13, 4, .ref bo), (bo, 2, 1, .int pc), (bo, 2, 0, .ref pa), (r0, 13, 3, .ref ou)] [] [(jFy, jYb dC dI G0), (jFs11, jSef dC dI G0), (jFl, jLs dC dI ca G0 3 none)] s.heap [] := jSt.start hX hP0 jMc.nil hI0
  clear hX hP0
  have hkm32602 : ((-32602) : Int32).toInt = (-32602) := by decide
  have hkm32600 : ((-32600) : Int32).toInt = (-32600) := by decide
  have hk0 : (0 : Int32).toInt = 0 := by decide
  have hk1 : (1 : Int32).toInt = 1 := by decide
  have hk12 : (12 : Int32).toInt = 12 := by decide
  have hly_13_8 := htw (u_lay RX11 TX11 8) (jWc_wsX110 _ (u_in_lay (by decide)))
  have hlk_65 := (htw (.fieldLink RX11 65 "ProofServer" "waiting" "Ljava/util/List;") (jWr_2 _ (List.mem_of_getElem? (i := 15) rfl)))
  have hrg_a2 := jb_rng a2
  have hbs : base ≤ s.heap.size := Nat.le_of_lt (Nat.lt_of_le_of_lt (hh.ab hg_r0).1 (hh.ab hg_r0).2)
  have hRc : R.cells = LC - s.heap.size := by rw [← hR]; rfl
  have hRs : R.slots = LS - jTot s.heap := by rw [← hR]; rfl
  have hh_1 := hh.addI (jOl.ie (dC := dC) (dI := dI) (G0 := G0) (k := 2) (rs := [bo, ou]) (H0 := s.heap) (F := [(2, 0), (2, 1)]) (C := RX0) (T := TX0) (N := 2) rfl (by decide) hh.2.2.2.2.1 (jOl.rf))
  clear hh
  refine lv_iload_n hx hb dX11_answerOrWait_0 rfl (lv_at hl 2 rfl) ?_
  refine lv_if_ne (tgt := 15) hx hb dX11_answerOrWait_1 (by decide) (fun c_2 => ?_) (fun c_2 => ?_)
  · skip
    have c_2' : a2.toInt ≠ 0 := jb_ne (rfl) ((by decide)) c_2
    obtain ⟨v_3, hv_3, hh_4⟩ := hh_1.pin (C := RX11) (T := TX11) (N := 19) hB13 rfl (by decide) hg_r0 (i := 8) (by decide) rfl
    obtain ⟨waiting_5, rfl, hg_waiting_5⟩ := hv_3
    obtain ⟨lz_6, lx_6, hl1_6, -, hl3_6, -⟩ := jLs.at (hh_4.iv 3 rfl) hg_waiting_5
    have hh_7 := hh_4.more (P1 := [(waiting_5, 1, 2, .int lz_6)]) (jP.cons hg_waiting_5 hl1_6 jP.nil)
    clear hh_4
    have hl3_6 : 0 ≤ lz_6.toInt ∧ lz_6.toInt ≤ 12 := hl3_6
    refine lv_aload_n hx hb dX11_answerOrWait_15 rfl (lv_at hl 1 rfl) ?_
    have hsz_8 := hh_7.2.2.2.2.2.1
    have htt_8 := hh_7.2.2.2.2.2.2.1
    refine W.room (fun hrc_8 hrs_8 => ?_)
    refine va_calli (A0 := jA base) (H0 := s.heap) (va_runV (As := []) (rest := []) ⟨hx, hb, hml, hown, hts⟩ (uX8_isReady l dC dI ca base B hB hAp hB3 hB10 G0 s.heap r1) (cwV 0 hts (jgV (jWr_29 _ (List.mem_of_getElem? (i := 19) rfl)) (jWr_29 _ (List.mem_of_getElem? (i := 20) rfl)) (jWr_29 _ (List.mem_of_getElem? (i := 21) rfl)) (jWr_19 _ (List.mem_of_getElem? (i := 5) rfl)) (jWr_29 _ (List.mem_of_getElem? (i := 22) rfl))) rfl rfl rfl (by decide +kernel) ⟨by rw [← hR]; exact Nat.le_of_ble_eq_true rfl, by rw [← hR]; exact Nat.le_of_ble_eq_true rfl⟩) ⟨fun a U g mk q => by obtain ⟨q0, q1, q2, qK, q10, q11, q12⟩ := q; exact ⟨q0, q1, q2, jG.calling g mk a qK, q10, q11, q12⟩, hh_7.recv (C := RX8) (T := TX8) (N := 5) hB10 rfl (by decide) hg_r1 hK, fun U hU hW => ⟨rfl, hU, hh_7.2.1, hG.step hW hU hh_7.1, hg_r1, jP.nil, trivial⟩⟩ rfl rfl hl.1 rfl (lv_room (Nat.le_of_ble_eq_true rfl)) dX11_answerOrWait_16 ⟨by rw [hRc]; show _ + 0 ≤ _; omega, by rw [hRs]; show _ + 0 ≤ _; omega⟩) hh_7.1 (fun q _ h => h) (fun q h => h) (fun r_9 u_8 t_8 H_8 locs_8 ht_8 hvm_8 hr_9 hb_8 hz_8 hk_8 hS_8 => ?_)
    rw [ht_8] at hb_8
    obtain ⟨hb_81, hb_82, hb_83, hb_84, hb_85⟩ := hb_8
    have hh_8 : jSt (dC, dI) B base G0 G0 EX11_answerOrWait s.heap 0 0 [(waiting_5, 1, 2, .int lz_6), (r0, 13, 8, .ref waiting_5), (r0, 13, 4, .ref bo), (bo, 2, 1, .int pc), (bo, 2, 0, .ref pa), (r0, 13, 3, .ref ou)] [] [([(2, 0), (2, 1)], jOl (dC, dI) G0 2 [bo, ou] s.heap), (jFy, jYb dC dI G0), (jFs11, jSef dC dI G0), (jFl, jLs dC dI ca G0 3 none)] H_8 locs_8 := ((hh_7.call hb_81 hb_82 hb_83 hb_84 hS_8 rfl (L1 := [(waiting_5, 1, 2, .int lz_6), (r0, 13, 8, .ref waiting_5), (r0, 13, 4, .ref bo), (bo, 2, 1, .int pc), (bo, 2, 0, .ref pa), (r0, 13, 3, .ref ou)]) [0, 1, 2, 3, 4, 5] rfl rfl (M1 := []) [] rfl rfl (I1 := [([(2, 0), (2, 1)], jOl (dC, dI) G0 2 [bo, ou] s.heap), (jFy, jYb dC dI G0), (jFs11, jSef dC dI G0), (jFl, jLs dC dI ca G0 3 none)]) [0, 1, 2, 3] rfl rfl).more hb_85)
    clear hh_7 ht_8 hvm_8 hz_8 hk_8 hS_8 hb_81 hb_82 hb_83 hb_84 hb_85
    obtain ⟨hr_9b, hr_9p⟩ := hr_9
    have hr_9' := jb_01 hr_9b
    refine lv_if_eq (tgt := 30) hx hb dX11_answerOrWait_19 (by decide) (fun c_10 => ?_) (fun c_10 => ?_)
    · skip
      have c_10' : r_9.toInt = 0 := jb_eq (rfl) ((by decide)) c_10
      refine lv_aload_n hx hb dX11_answerOrWait_30 rfl (lv_at hl 0 rfl) ?_
      refine j7_read hx hb hown hK (C := RX11) (T := TX11) (N := 19) rfl hly_13_8 hlk_65 (hh_8.at 1 rfl) dX11_answerOrWait_31 ?_
      have hsz_11 := hh_8.2.2.2.2.2.1
      have htt_11 := hh_8.2.2.2.2.2.2.1
      refine W.room (fun hrc_11 hrs_11 => ?_)
      refine va_callFi (A0 := jA base) (H0 := s.heap) (va_runF (hK.1 1 _ rfl).2 (As := []) (rest := []) ⟨hx, hb, hml, hown, hts⟩ (uJx4a65c_size_8abf5 l dC dI ca base B hB hAp hB1 G0 H_8 waiting_5 2 lz_6) (va_cwF 0 hts (jgF (jWr_27 _ (List.mem_of_getElem? (i := 22) rfl)) (jWr_27 _ (List.mem_of_getElem? (i := 23) rfl)) (jWr_28 _ (List.mem_of_getElem? (i := 0) rfl)) (jWr_2 _ (List.mem_of_getElem? (i := 13) rfl)) (jWr_28 _ (List.mem_of_getElem? (i := 1) rfl))) rfl rfl rfl hK7.2.2.2.2.2.1.1 ⟨by decide, by decide, by decide +kernel⟩ ⟨by rw [← hR]; exact Nat.le_of_ble_eq_true rfl, by rw [← hR]; exact Nat.le_of_ble_eq_true rfl⟩) ⟨fun a U g mk q => by obtain ⟨q0, q1, q2, qK, q10, q11, q12⟩ := q; exact ⟨q0, q1, q2, jG.calling g mk a qK, q10, q11, q12⟩, hh_8.recv (C := RJx4a65c) (T := TJx4a65c) (N := 3) hB1 rfl (by decide) hg_waiting_5 hK, fun U hU hW => ⟨rfl, hU, hh_8.2.1, hG.step hW hU hh_8.1, hg_waiting_5, (hh_8.2.2.1.sub (L1 := [(waiting_5, 1, 2, .int lz_6)]) [0] rfl), trivial⟩⟩ rfl rfl hl.1 rfl (lv_room (Nat.le_of_ble_eq_true rfl)) dX11_answerOrWait_34 ⟨by rw [hRc]; show _ + 0 ≤ _; omega, by rw [hRs]; show _ + 0 ≤ _; omega⟩) hh_8.1 (fun q _ h => h) (fun q h => h) (fun r_12 u_11 t_11 H_11 locs_11 ht_11 hvm_11 hr_12 hb_11 hz_11 hk_11 hS_11 => ?_)
      rw [ht_11] at hb_11
      obtain ⟨hb_111, hb_112, hb_113, hb_114, hb_115⟩ := hb_11
      have hh_11 : jSt (dC, dI) B base G0 G0 EX11_answerOrWait s.heap 0 0 [(waiting_5, 1, 2, .int lz_6), (r0, 13, 8, .ref waiting_5), (r0, 13, 4, .ref bo), (bo, 2, 1, .int pc), (bo, 2, 0, .ref pa), (r0, 13, 3, .ref ou)] [] [([(2, 0), (2, 1)], jOl (dC, dI) G0 2 [bo, ou] s.heap), (jFy, jYb dC dI G0), (jFs11, jSef dC dI G0), (jFl, jLs dC dI ca G0 3 none)] H_11 locs_11 := ((hh_8.call hb_111 hb_112 hb_113 hb_114 hS_11 rfl (L1 := [(waiting_5, 1, 2, .int lz_6), (r0, 13, 8, .ref waiting_5), (r0, 13, 4, .ref bo), (bo, 2, 1, .int pc), (bo, 2, 0, .ref pa), (r0, 13, 3, .ref ou)]) [0, 1, 2, 3, 4, 5] rfl rfl (M1 := []) [] rfl rfl (I1 := [([(2, 0), (2, 1)], jOl (dC, dI) G0 2 [bo, ou] s.heap), (jFy, jYb dC dI G0), (jFs11, jSef dC dI G0), (jFl, jLs dC dI ca G0 3 none)]) [0, 1, 2, 3] rfl rfl).more hb_115)
      clear hh_8 ht_11 hvm_11 hz_11 hk_11 hS_11 hb_111 hb_112 hb_113 hb_114 hb_115
      refine lv_bipush (v := 12) hx hb dX11_answerOrWait_39 (by decide) ?_
      refine lv_icmp_ge (tgt := 58) hx hb dX11_answerOrWait_41 (by decide) (fun c_13 => ?_) (fun c_13 => ?_)
      · skip
        have c_13' : r_12.toInt ≥ 12 := jb_ge (rfl) ((by decide)) c_13
        refine lv_aload_n hx hb dX11_answerOrWait_58 rfl (lv_at hl 0 rfl) ?_
        refine lv_aload_n hx hb dX11_answerOrWait_59 rfl (lv_at hl 1 rfl) ?_
        refine lv_sipush (v := (-32600)) hx hb dX11_answerOrWait_60 (by decide) ?_
        have hsz_14 := hh_11.2.2.2.2.2.1
        have htt_14 := hh_11.2.2.2.2.2.2.1
        refine W.room (fun hrc_14 hrs_14 => ?_)
        refine va_callv (A0 := jA base) (H0 := s.heap) (va_runV (As := [.ref r1, .int (-32600)]) (rest := []) ⟨hx, hb, hml, hown, hts⟩ (uX11_refuse l dC dI ca base B hB hAp hB2 hB4 hB10 hB13 hB196 G0 H_11 r0 r1 (-32600) bo pc pa n_pa ou LC LS) (cwV 2 hts (jgV (jWr_26 _ (List.mem_of_getElem? (i := 3) rfl)) (jWr_26 _ (List.mem_of_getElem? (i := 4) rfl)) (jWr_26 _ (List.mem_of_getElem? (i := 5) rfl)) (jWr_1 _ (List.mem_of_getElem? (i := 2) rfl)) (jWr_26 _ (List.mem_of_getElem? (i := 6) rfl))) rfl rfl rfl (by decide +kernel) ⟨by rw [← hR]; exact Nat.le_of_ble_eq_true rfl, by rw [← hR]; exact Nat.le_of_ble_eq_true rfl⟩) ⟨fun a U g mk q => by obtain ⟨q0, q1, q2, qK, q10, q11, q12, q13, q14, q15, q16, q17⟩ := q; exact ⟨q0, q1, q2, jG.calling g mk a qK, q10, q11, q12, q13, q14, q15, q16, q17⟩, hh_11.recv (C := RX11) (T := TX11) (N := 19) hB13 rfl (by decide) hg_r0 hK, fun U hU hW => ⟨rfl, hU, hh_11.2.1, hG.step hW hU hh_11.1, hg_r1, hg_r0, hg_bo, hg_pa, hg_ou, (hh_11.2.2.1.sub (L1 := [(r0, 13, 4, .ref bo), (bo, 2, 1, .int pc), (bo, 2, 0, .ref pa), (r0, 13, 3, .ref ou)]) [2, 3, 4, 5] rfl), (hh_11.2.2.2.2.2.2.2.2.sub (L1 := [(jFy, jYb dC dI G0)]) [1] rfl), (by omega), (by omega), ⟨(by first | omega | rfl | assumption | fail), (by first | omega | rfl | assumption | fail), (by first | omega | rfl | assumption | fail), (by first | omega | rfl | assumption | fail), (by first | assumption | fail | omega)⟩⟩⟩ rfl rfl hl.1 rfl (lv_room (Nat.le_of_ble_eq_true rfl)) dX11_answerOrWait_63 ⟨by rw [hRc]; omega, by rw [hRs]; omega⟩) hh_11.1 (fun q _ h => h) (fun q h => h) (fun u_14 t_14 H_14 locs_14 ht_14 hvm_14 hr_15 hb_14 hz_14 hk_14 hS_14 => ?_)
        obtain ⟨qc_14, qa_14, m_qa_14, G_14⟩ := u_14
        rw [ht_14] at hb_14
        simp only at hb_14
        obtain ⟨⟨hb_141, hb_142, hb_143, hb_144, hb_145, hb_146⟩, hgq_14_0, hN_14, hbO_14, hbE_14⟩ := hb_14
        have hh_14 : jSt (dC, dI) B base G0 G_14 EX11_answerOrWait s.heap (0 + ((m_qa_14 - n_pa) / 16)) (0 + (2 * (m_qa_14 - n_pa))) [(bo, 2, 1, .int qc_14), (bo, 2, 0, .ref qa_14), (waiting_5, 1, 2, .int lz_6), (r0, 13, 8, .ref waiting_5), (r0, 13, 4, .ref bo), (r0, 13, 3, .ref ou)] [] [(jFs11, jSef dC dI G0), (jFl, jLs dC dI ca G0 3 none)] H_14 locs_14 := (hh_11.callG hb_141 hb_142 hb_143 hb_144 hb_145 hS_14 rfl (L1 := [(waiting_5, 1, 2, .int lz_6), (r0, 13, 8, .ref waiting_5), (r0, 13, 4, .ref bo), (r0, 13, 3, .ref ou)]) [0, 1, 2, 5] rfl rfl (M1 := []) [] rfl rfl (I1 := [(jFs11, jSef dC dI G0), (jFl, jLs dC dI ca G0 3 none)]) [2, 3] rfl rfl).more hb_146
        have hNn_14 : (jNk [0, 1, 2, 3, 4, 5, 6, 7, 8, 9, 10, 11, 12, 13, 14, 15, 16]) G0 G_14 := (jNk.rf).tr hN_14
        have hg_16 := hb_142 _ _ hg_r0
        have hg_17 := hb_142 _ _ hg_r1
        have hg_18 := hb_142 _ _ hg_waiting_5
        have hg_19 := hb_142 _ _ hg_bo
        have hg_20 := hb_142 _ _ hg_ou
        have hd_21 := jSef.grow (hh_14.iv 0 rfl) hb_142 hN_14 (by decide)
        have hh_22 := hh_14.sub (L1 := [(bo, 2, 1, .int qc_14), (bo, 2, 0, .ref qa_14), (waiting_5, 1, 2, .int lz_6), (r0, 13, 8, .ref waiting_5), (r0, 13, 4, .ref bo), (r0, 13, 3, .ref ou)]) [0, 1, 2, 3, 4, 5] rfl (M1 := []) [] rfl (I1 := [(jFl, jLs dC dI ca G0 3 none)]) [1] rfl
        clear hh_14
        have hh_23 := hh_22.addI (jSef.ie hd_21)
        clear hh_22
        have hd_24 := jLs.grow (hh_23.iv 1 rfl) hb_142 hN_14 (by decide)
        have hh_25 := hh_23.sub (L1 := [(bo, 2, 1, .int qc_14), (bo, 2, 0, .ref qa_14), (waiting_5, 1, 2, .int lz_6), (r0, 13, 8, .ref waiting_5), (r0, 13, 4, .ref bo), (r0, 13, 3, .ref ou)]) [0, 1, 2, 3, 4, 5] rfl (M1 := []) [] rfl (I1 := [(jFs11, jSef dC dI G_14)]) [0] rfl
        clear hh_23
        have hh_26 := hh_25.addI (jLs.ie hd_24)
        clear hh_25
        have hh_27 := hh_26.addIs hbE_14
        have hd_28 := jOl.trL (hh_11.iv 0 rfl) hh_11.2.2.2.2.1 hbO_14 (by simp)
        have hh_29 := hh_27.addI (jOl.ie (dC := dC) (dI := dI) (G0 := G0) (k := 2) (rs := [bo, ou]) (H0 := s.heap) (F := [(2, 0), (2, 1)]) (C := RX0) (T := TX0) (N := 2) rfl (by decide) hh_27.2.2.2.2.1 (hd_28))
        clear hh_27
        try simp only at hr_15
        obtain ⟨hr_15_0, hr_15_1, hr_15_2, hr_15_3, hr_15_4⟩ := hr_15
        have hh_30 := hh_29.wk (zc1 := (m_qa_14 - n_pa) / 16 + 1) (zs1 := 2 * (m_qa_14 - n_pa) + 40) (by omega) (by omega)
        clear hh_29
        try clear hsz_14 htt_14 hrc_14 hrs_14
        try clear hb_144 hb_145
        have hsz_31 := hh_30.2.2.2.2.2.1
        have htt_31 := hh_30.2.2.2.2.2.2.1
        refine W.room (fun hrc_31 hrs_31 => ?_)
        refine W.widen (k := LC - s.heap.size) (n := LS - jTot s.heap) (by omega) (by omega) ?_
        rw [hQ]
        exact W.vret hx hb hr (fun t ht hW => ⟨⟨(qc_14, qa_14, m_qa_14, G_14), rfl, by (try dsimp only); exact ⟨(by first | omega | rfl | assumption | fail), (by first | omega | rfl | assumption | fail), (by first | omega | rfl | assumption | fail), (by first | omega | rfl | assumption | fail), (by first | assumption | fail | omega)⟩, ⟨hh_30.ra (by first | omega | (simp only; omega)) (by first | omega | (simp only; omega)) (M1 := [(bo, 2, 1, .int qc_14), (bo, 2, 0, .ref qa_14)]) [0, 1] rfl ht, hgq_14_0, hNn_14, by rw [ht]; exact hh_30.iv 0 rfl, by rw [ht]; exact hh_30.2.2.2.2.2.2.2.2.sub (L1 := [(jFy, jYb dC dI G_14), (jFs11, jSef dC dI G_14), (jFl, jLs dC dI ca G_14 3 none)]) [1, 3, 2] rfl⟩⟩, by rw [ht]; try exact hh_30.1.1, fun q h9 hq => by rw [ht]; try exact hh_30.1.2.1 q h9 hq⟩) hh_30.1.2.2 dX11_answerOrWait_66
      · skip
        have c_13' : r_12.toInt < 12 := jb_ge_n (rfl) ((by decide)) c_13
        refine lv_aload_n hx hb dX11_answerOrWait_44 rfl (lv_at hl 0 rfl) ?_
        refine j7_read hx hb hown hK (C := RX11) (T := TX11) (N := 19) rfl hly_13_8 hlk_65 (hh_11.at 1 rfl) dX11_answerOrWait_45 ?_
        refine lv_aload_n hx hb dX11_answerOrWait_48 rfl (lv_at hl 1 rfl) ?_
        have hsz_32 := hh_11.2.2.2.2.2.1
        have htt_32 := hh_11.2.2.2.2.2.2.1
        refine W.room (fun hrc_32 hrs_32 => ?_)
        refine va_callFi (A0 := jA base) (H0 := s.heap) (va_runF (hK.1 1 _ rfl).2 (As := [.ref r1]) (rest := []) ⟨hx, hb, hml, hown, hts⟩ (uJx4a65c_add_9ea2dL2 l dC dI ca base B hB hAp hB1 hB10 hB222 G0 H_11 waiting_5 r1 lz_6 LC LS) (va_cwF 1 hts (jgF (jWr_33 _ (List.mem_of_getElem? (i := 7) rfl)) (jWr_33 _ (List.mem_of_getElem? (i := 8) rfl)) (jWr_33 _ (List.mem_of_getElem? (i := 9) rfl)) (jWr_2 _ (List.mem_of_getElem? (i := 13) rfl)) (jWr_33 _ (List.mem_of_getElem? (i := 10) rfl))) rfl rfl rfl hK7.2.2.2.2.2.1.2.2.1 ⟨by decide, by decide, by decide +kernel⟩ ⟨by rw [← hR]; exact Nat.le_of_ble_eq_true rfl, by rw [← hR]; exact Nat.le_of_ble_eq_true rfl⟩) ⟨fun a U g mk q => by obtain ⟨q0, q1, q2, qK, q10, q11, q12, q13, q14, q15⟩ := q; exact ⟨q0, q1, q2, jG.calling g mk a qK, (jK7.calling g mk a q10), q11, q12, q13, q14, q15⟩, hh_11.recv (C := RJx4a65c) (T := TJx4a65c) (N := 3) hB1 rfl (by decide) hg_waiting_5 hK, fun U hU hW => ⟨rfl, hU, hh_11.2.1, hG.step hW hU hh_11.1, (hK7.step hW hU hh_11.1), hg_waiting_5, hg_r1, (hh_11.2.2.1.sub (L1 := [(waiting_5, 1, 2, .int lz_6)]) [0] rfl), (hh_11.2.2.2.2.2.2.2.2.sub (L1 := [(jFl, jLs dC dI ca G0 3 none)]) [3] rfl), ⟨(by first | omega | rfl | assumption | fail), (by first | omega | rfl | assumption | fail)⟩⟩⟩ rfl rfl hl.1 rfl (lv_room (Nat.le_of_ble_eq_true rfl)) dX11_answerOrWait_49 ⟨by rw [hRc]; omega, by rw [hRs]; omega⟩) hh_11.1 (fun q _ h => h) (fun q h => h) (fun r_33 u_32 t_32 H_32 locs_32 ht_32 hvm_32 hr_33 hb_32 hz_32 hk_32 hS_32 => ?_)
        obtain ⟨qz_32, G_32⟩ := u_32
        rw [ht_32] at hb_32
        simp only at hb_32
        obtain ⟨⟨hb_321, hb_322, hb_323, hb_324, hb_325, hb_326⟩, hN_32, hbE_32⟩ := hb_32
        have hh_32 : jSt (dC, dI) B base G0 G_32 EX11_answerOrWait s.heap (0 + (1)) (0 + (40)) [(waiting_5, 1, 2, .int qz_32), (r0, 13, 8, .ref waiting_5), (r0, 13, 4, .ref bo), (bo, 2, 1, .int pc), (bo, 2, 0, .ref pa), (r0, 13, 3, .ref ou)] [] [([(2, 0), (2, 1)], jOl (dC, dI) G0 2 [bo, ou] s.heap), (jFy, jYb dC dI G0), (jFs11, jSef dC dI G0)] H_32 locs_32 := (hh_11.callG hb_321 hb_322 hb_323 hb_324 hb_325 hS_32 rfl (L1 := [(r0, 13, 8, .ref waiting_5), (r0, 13, 4, .ref bo), (bo, 2, 1, .int pc), (bo, 2, 0, .ref pa), (r0, 13, 3, .ref ou)]) [1, 2, 3, 4, 5] rfl rfl (M1 := []) [] rfl rfl (I1 := [([(2, 0), (2, 1)], jOl (dC, dI) G0 2 [bo, ou] s.heap), (jFy, jYb dC dI G0), (jFs11, jSef dC dI G0)]) [0, 1, 2] rfl rfl).more hb_326
        have hNn_32 : (jNk [0, 1, 2, 3, 4, 5, 6, 7, 8, 9, 10, 11, 12, 13, 14, 15, 16]) G0 G_32 := (jNk.rf).tr hN_32
        have hg_34 := hb_322 _ _ hg_r0
        have hg_35 := hb_322 _ _ hg_r1
        have hg_36 := hb_322 _ _ hg_waiting_5
        have hg_37 := hb_322 _ _ hg_bo
        have hg_38 := hb_322 _ _ hg_pa
        have hg_39 := hb_322 _ _ hg_ou
        have hd_40 := jYb.grow (hh_32.iv 1 rfl) hb_322 hN_32 (by decide)
        have hh_41 := hh_32.sub (L1 := [(waiting_5, 1, 2, .int qz_32), (r0, 13, 8, .ref waiting_5), (r0, 13, 4, .ref bo), (bo, 2, 1, .int pc), (bo, 2, 0, .ref pa), (r0, 13, 3, .ref ou)]) [0, 1, 2, 3, 4, 5] rfl (M1 := []) [] rfl (I1 := [([(2, 0), (2, 1)], jOl (dC, dI) G0 2 [bo, ou] s.heap), (jFs11, jSef dC dI G0)]) [0, 2] rfl
        clear hh_32
        have hh_42 := hh_41.addI (jYb.ie hd_40)
        clear hh_41
        have hd_43 := jSef.grow (hh_42.iv 2 rfl) hb_322 hN_32 (by decide)
        have hh_44 := hh_42.sub (L1 := [(waiting_5, 1, 2, .int qz_32), (r0, 13, 8, .ref waiting_5), (r0, 13, 4, .ref bo), (bo, 2, 1, .int pc), (bo, 2, 0, .ref pa), (r0, 13, 3, .ref ou)]) [0, 1, 2, 3, 4, 5] rfl (M1 := []) [] rfl (I1 := [(jFy, jYb dC dI G_32), ([(2, 0), (2, 1)], jOl (dC, dI) G0 2 [bo, ou] s.heap)]) [0, 1] rfl
        clear hh_42
        have hh_45 := hh_44.addI (jSef.ie hd_43)
        clear hh_44
        have hh_46 := hh_45.addIs hbE_32
        obtain ⟨hr_33b, hr_33p⟩ := hr_33
        try simp only at hr_33p
        have hh_47 := hh_46.wk (zc1 := (n_pa - n_pa) / 16 + 1) (zs1 := 2 * (n_pa - n_pa) + 40) (by omega) (by omega)
        clear hh_46
        try clear hsz_32 htt_32 hrc_32 hrs_32
        try clear hb_324 hb_325
        have hr_33' := jb_01 hr_33b
        refine lv_pop hx hb dX11_answerOrWait_54 rfl ?_
        refine lv_goto (tgt := 66) hx hb dX11_answerOrWait_55 (by decide) ?_
        have hsz_48 := hh_47.2.2.2.2.2.1
        have htt_48 := hh_47.2.2.2.2.2.2.1
        refine W.room (fun hrc_48 hrs_48 => ?_)
        refine W.widen (k := LC - s.heap.size) (n := LS - jTot s.heap) (by omega) (by omega) ?_
        rw [hQ]
        exact W.vret hx hb hr (fun t ht hW => ⟨⟨(pc, pa, n_pa, G_32), rfl, by (try dsimp only); exact ⟨(by first | omega | rfl | assumption | fail), (by first | omega | rfl | assumption | fail), (by first | omega | rfl | assumption | fail), (by first | omega | rfl | assumption | fail), (by first | assumption | fail | omega)⟩, ⟨hh_47.ra (by first | omega | (simp only; omega)) (by first | omega | (simp only; omega)) (M1 := [(bo, 2, 1, .int pc), (bo, 2, 0, .ref pa)]) [3, 4] rfl ht, hg_38, hNn_32, by rw [ht]; exact hh_47.iv 3 rfl, by rw [ht]; exact hh_47.2.2.2.2.2.2.2.2.sub (L1 := [(jFy, jYb dC dI G_32), (jFs11, jSef dC dI G_32), (jFl, jLs dC dI ca G_32 3 none)]) [2, 1, 0] rfl⟩⟩, by rw [ht]; try exact hh_47.1.1, fun q h9 hq => by rw [ht]; try exact hh_47.1.2.1 q h9 hq⟩) hh_47.1.2.2 dX11_answerOrWait_66
    · skip
      have c_10' : r_9.toInt ≠ 0 := jb_eq_n (rfl) ((by decide)) c_10
      refine lv_aload_n hx hb dX11_answerOrWait_22 rfl (lv_at hl 0 rfl) ?_
      refine lv_aload_n hx hb dX11_answerOrWait_23 rfl (lv_at hl 1 rfl) ?_
      have hsz_49 := hh_8.2.2.2.2.2.1
      have htt_49 := hh_8.2.2.2.2.2.2.1
      refine W.room (fun hrc_49 hrs_49 => ?_)
      refine va_callv (A0 := jA base) (H0 := s.heap) (va_runV (As := [.ref r1]) (rest := []) ⟨hx, hb, hml, hown, hts⟩ (uX11_reply l dC dI ca base B hB hAp hB2 hB3 hB4 hB5 hB7 hB8 hB9 hB10 hB11 hB13 hB101 hB102 hB132 hB196 hB210 hB214 hB280 hB286 hB287 hB288 hB313 G0 H_8 r0 r1 bo pc pa n_pa ou LC LS) (cwV 1 hts (jgV (jWr_30 _ (List.mem_of_getElem? (i := 2) rfl)) (jWr_30 _ (List.mem_of_getElem? (i := 3) rfl)) (jWr_30 _ (List.mem_of_getElem? (i := 4) rfl)) (jWr_1 _ (List.mem_of_getElem? (i := 2) rfl)) (jWr_30 _ (List.mem_of_getElem? (i := 5) rfl))) rfl rfl rfl (by decide +kernel) ⟨by rw [← hR]; exact Nat.le_of_ble_eq_true rfl, by rw [← hR]; exact Nat.le_of_ble_eq_true rfl⟩) ⟨fun a U g mk q => by obtain ⟨q0, q1, q2, qK, q10, q11, q12, q13, q14, q15, q16, q17, q18, q19⟩ := q; exact ⟨q0, q1, q2, jG.calling g mk a qK, (va_K.moved (Vm.Alike.refl U.vm) q10), (jK5.moved (Vm.Alike.refl U.vm) q11), q12, q13, q14, q15, q16, q17, q18, q19⟩, hh_8.recv (C := RX11) (T := TX11) (N := 19) hB13 rfl (by decide) hg_r0 hK, fun U hU hW => ⟨rfl, hU, hh_8.2.1, hG.step hW hU hh_8.1, va_K.moved hW.alike hK2, jK5.moved hW.alike hK5, hg_r0, hg_r1, hg_bo, hg_pa, hg_ou, (hh_8.2.2.1.sub (L1 := [(r0, 13, 4, .ref bo), (bo, 2, 1, .int pc), (bo, 2, 0, .ref pa), (r0, 13, 3, .ref ou)]) [2, 3, 4, 5] rfl), (hh_8.2.2.2.2.2.2.2.2.sub (L1 := [(jFy, jYb dC dI G0), (jFs11, jSef dC dI G0)]) [1, 2] rfl), (by omega), (by omega), ⟨(by first | omega | rfl | assumption | fail), (by first | omega | rfl | assumption | fail), (by first | omega | rfl | assumption | fail), (by first | omega | rfl | assumption | fail), (by first | assumption | fail | omega)⟩⟩⟩ rfl rfl hl.1 rfl (lv_room (Nat.le_of_ble_eq_true rfl)) dX11_answerOrWait_24 ⟨by rw [hRc]; omega, by rw [hRs]; omega⟩) hh_8.1 (fun q _ h => h) (fun q h => h) (fun u_49 t_49 H_49 locs_49 ht_49 hvm_49 hr_50 hb_49 hz_49 hk_49 hS_49 => ?_)
      obtain ⟨qc_49, qa_49, m_qa_49, G_49⟩ := u_49
      rw [ht_49] at hb_49
      simp only at hb_49
      obtain ⟨⟨hb_491, hb_492, hb_493, hb_494, hb_495, hb_496⟩, hgq_49_0, hN_49, hbO_49, hbE_49⟩ := hb_49
      have hh_49 : jSt (dC, dI) B base G0 G_49 EX11_answerOrWait s.heap (0 + ((m_qa_49 - n_pa) / 16)) (0 + (2 * (m_qa_49 - n_pa))) [(bo, 2, 1, .int qc_49), (bo, 2, 0, .ref qa_49), (waiting_5, 1, 2, .int lz_6), (r0, 13, 8, .ref waiting_5), (r0, 13, 4, .ref bo), (r0, 13, 3, .ref ou)] [] [(jFl, jLs dC dI ca G0 3 none)] H_49 locs_49 := (hh_8.callG hb_491 hb_492 hb_493 hb_494 hb_495 hS_49 rfl (L1 := [(waiting_5, 1, 2, .int lz_6), (r0, 13, 8, .ref waiting_5), (r0, 13, 4, .ref bo), (r0, 13, 3, .ref ou)]) [0, 1, 2, 5] rfl rfl (M1 := []) [] rfl rfl (I1 := [(jFl, jLs dC dI ca G0 3 none)]) [3] rfl rfl).more hb_496
      have hNn_49 : (jNk [0, 1, 2, 3, 4, 5, 6, 7, 8, 9, 10, 11, 12, 13, 14, 15, 16]) G0 G_49 := (jNk.rf).tr hN_49
      have hg_51 := hb_492 _ _ hg_r0
      have hg_52 := hb_492 _ _ hg_r1
      have hg_53 := hb_492 _ _ hg_waiting_5
      have hg_54 := hb_492 _ _ hg_bo
      have hg_55 := hb_492 _ _ hg_ou
      have hd_56 := jLs.grow (hh_49.iv 0 rfl) hb_492 hN_49 (by decide)
      have hh_57 := hh_49.sub (L1 := [(bo, 2, 1, .int qc_49), (bo, 2, 0, .ref qa_49), (waiting_5, 1, 2, .int lz_6), (r0, 13, 8, .ref waiting_5), (r0, 13, 4, .ref bo), (r0, 13, 3, .ref ou)]) [0, 1, 2, 3, 4, 5] rfl (M1 := []) [] rfl (I1 := []) [] rfl
      clear hh_49
      have hh_58 := hh_57.addI (jLs.ie hd_56)
      clear hh_57
      have hh_59 := hh_58.addIs hbE_49
      have hd_60 := jOl.trL (hh_8.iv 0 rfl) hh_8.2.2.2.2.1 hbO_49 (by simp)
      have hh_61 := hh_59.addI (jOl.ie (dC := dC) (dI := dI) (G0 := G0) (k := 2) (rs := [bo, ou]) (H0 := s.heap) (F := [(2, 0), (2, 1)]) (C := RX0) (T := TX0) (N := 2) rfl (by decide) hh_59.2.2.2.2.1 (hd_60))
      clear hh_59
      try simp only at hr_50
      obtain ⟨hr_50_0, hr_50_1, hr_50_2, hr_50_3, hr_50_4⟩ := hr_50
      have hh_62 := hh_61.wk (zc1 := (m_qa_49 - n_pa) / 16 + 1) (zs1 := 2 * (m_qa_49 - n_pa) + 40) (by omega) (by omega)
      clear hh_61
      try clear hsz_49 htt_49 hrc_49 hrs_49
      try clear hb_494 hb_495
      refine lv_goto (tgt := 66) hx hb dX11_answerOrWait_27 (by decide) ?_
      have hsz_63 := hh_62.2.2.2.2.2.1
      have htt_63 := hh_62.2.2.2.2.2.2.1
      refine W.room (fun hrc_63 hrs_63 => ?_)
      refine W.widen (k := LC - s.heap.size) (n := LS - jTot s.heap) (by omega) (by omega) ?_
      rw [hQ]
      exact W.vret hx hb hr (fun t ht hW => ⟨⟨(qc_49, qa_49, m_qa_49, G_49), rfl, by (try dsimp only); exact ⟨(by first | omega | rfl | assumption | fail), (by first | omega | rfl | assumption | fail), (by first | omega | rfl | assumption | fail), (by first | omega | rfl | assumption | fail), (by first | assumption | fail | omega)⟩, ⟨hh_62.ra (by first | omega | (simp only; omega)) (by first | omega | (simp only; omega)) (M1 := [(bo, 2, 1, .int qc_49), (bo, 2, 0, .ref qa_49)]) [0, 1] rfl ht, hgq_49_0, hNn_49, by rw [ht]; exact hh_62.iv 0 rfl, by rw [ht]; exact hh_62.2.2.2.2.2.2.2.2.sub (L1 := [(jFy, jYb dC dI G_49), (jFs11, jSef dC dI G_49), (jFl, jLs dC dI ca G_49 3 none)]) [1, 2, 3] rfl⟩⟩, by rw [ht]; try exact hh_62.1.1, fun q h9 hq => by rw [ht]; try exact hh_62.1.2.1 q h9 hq⟩) hh_62.1.2.2 dX11_answerOrWait_66
  · skip
    have c_2' : a2.toInt = 0 := jb_ne_n (rfl) ((by decide)) c_2
    refine lv_aload_n hx hb dX11_answerOrWait_4 rfl (lv_at hl 0 rfl) ?_
    refine lv_aload_n hx hb dX11_answerOrWait_5 rfl (lv_at hl 1 rfl) ?_
    refine lv_sipush (v := (-32602)) hx hb dX11_answerOrWait_6 (by decide) ?_
    have hsz_64 := hh_1.2.2.2.2.2.1
    have htt_64 := hh_1.2.2.2.2.2.2.1
    refine W.room (fun hrc_64 hrs_64 => ?_)
    refine va_callv (A0 := jA base) (H0 := s.heap) (va_runV (As := [.ref r1, .int (-32602)]) (rest := []) ⟨hx, hb, hml, hown, hts⟩ (uX11_refuse l dC dI ca base B hB hAp hB2 hB4 hB10 hB13 hB196 G0 s.heap r0 r1 (-32602) bo pc pa n_pa ou LC LS) (cwV 2 hts (jgV (jWr_26 _ (List.mem_of_getElem? (i := 3) rfl)) (jWr_26 _ (List.mem_of_getElem? (i := 4) rfl)) (jWr_26 _ (List.mem_of_getElem? (i := 5) rfl)) (jWr_1 _ (List.mem_of_getElem? (i := 2) rfl)) (jWr_26 _ (List.mem_of_getElem? (i := 6) rfl))) rfl rfl rfl (by decide +kernel) ⟨by rw [← hR]; exact Nat.le_of_ble_eq_true rfl, by rw [← hR]; exact Nat.le_of_ble_eq_true rfl⟩) ⟨fun a U g mk q => by obtain ⟨q0, q1, q2, qK, q10, q11, q12, q13, q14, q15, q16, q17⟩ := q; exact ⟨q0, q1, q2, jG.calling g mk a qK, q10, q11, q12, q13, q14, q15, q16, q17⟩, hh_1.recv (C := RX11) (T := TX11) (N := 19) hB13 rfl (by decide) hg_r0 hK, fun U hU hW => ⟨rfl, hU, hh_1.2.1, hG.step hW hU hh_1.1, hg_r1, hg_r0, hg_bo, hg_pa, hg_ou, (hh_1.2.2.1.sub (L1 := [(r0, 13, 4, .ref bo), (bo, 2, 1, .int pc), (bo, 2, 0, .ref pa), (r0, 13, 3, .ref ou)]) [0, 1, 2, 3] rfl), (hh_1.2.2.2.2.2.2.2.2.sub (L1 := [(jFy, jYb dC dI G0)]) [1] rfl), (by omega), (by omega), ⟨(by first | omega | rfl | assumption | fail), (by first | omega | rfl | assumption | fail), (by first | omega | rfl | assumption | fail), (by first | omega | rfl | assumption | fail), (by first | assumption | fail | omega)⟩⟩⟩ rfl rfl hl.1 rfl (lv_room (Nat.le_of_ble_eq_true rfl)) dX11_answerOrWait_9 ⟨by rw [hRc]; omega, by rw [hRs]; omega⟩) hh_1.1 (fun q _ h => h) (fun q h => h) (fun u_64 t_64 H_64 locs_64 ht_64 hvm_64 hr_65 hb_64 hz_64 hk_64 hS_64 => ?_)
    obtain ⟨qc_64, qa_64, m_qa_64, G_64⟩ := u_64
    rw [ht_64] at hb_64
    simp only at hb_64
    obtain ⟨⟨hb_641, hb_642, hb_643, hb_644, hb_645, hb_646⟩, hgq_64_0, hN_64, hbO_64, hbE_64⟩ := hb_64
    have hh_64 : jSt (dC, dI) B base G0 G_64 EX11_answerOrWait s.heap (0 + ((m_qa_64 - n_pa) / 16)) (0 + (2 * (m_qa_64 - n_pa))) [(bo, 2, 1, .int qc_64), (bo, 2, 0, .ref qa_64), (r0, 13, 4, .ref bo), (r0, 13, 3, .ref ou)] [] [(jFs11, jSef dC dI G0), (jFl, jLs dC dI ca G0 3 none)] H_64 locs_64 := (hh_1.callG hb_641 hb_642 hb_643 hb_644 hb_645 hS_64 rfl (L1 := [(r0, 13, 4, .ref bo), (r0, 13, 3, .ref ou)]) [0, 3] rfl rfl (M1 := []) [] rfl rfl (I1 := [(jFs11, jSef dC dI G0), (jFl, jLs dC dI ca G0 3 none)]) [2, 3] rfl rfl).more hb_646
    have hNn_64 : (jNk [0, 1, 2, 3, 4, 5, 6, 7, 8, 9, 10, 11, 12, 13, 14, 15, 16]) G0 G_64 := (jNk.rf).tr hN_64
    have hg_66 := hb_642 _ _ hg_r0
    have hg_67 := hb_642 _ _ hg_r1
    have hg_68 := hb_642 _ _ hg_bo
    have hg_69 := hb_642 _ _ hg_ou
    have hd_70 := jSef.grow (hh_64.iv 0 rfl) hb_642 hN_64 (by decide)
    have hh_71 := hh_64.sub (L1 := [(bo, 2, 1, .int qc_64), (bo, 2, 0, .ref qa_64), (r0, 13, 4, .ref bo), (r0, 13, 3, .ref ou)]) [0, 1, 2, 3] rfl (M1 := []) [] rfl (I1 := [(jFl, jLs dC dI ca G0 3 none)]) [1] rfl
    clear hh_64
    have hh_72 := hh_71.addI (jSef.ie hd_70)
    clear hh_71
    have hd_73 := jLs.grow (hh_72.iv 1 rfl) hb_642 hN_64 (by decide)
    have hh_74 := hh_72.sub (L1 := [(bo, 2, 1, .int qc_64), (bo, 2, 0, .ref qa_64), (r0, 13, 4, .ref bo), (r0, 13, 3, .ref ou)]) [0, 1, 2, 3] rfl (M1 := []) [] rfl (I1 := [(jFs11, jSef dC dI G_64)]) [0] rfl
    clear hh_72
    have hh_75 := hh_74.addI (jLs.ie hd_73)
    clear hh_74
    have hh_76 := hh_75.addIs hbE_64
    have hd_77 := jOl.trL (hh_1.iv 0 rfl) hh_1.2.2.2.2.1 hbO_64 (by simp)
    have hh_78 := hh_76.addI (jOl.ie (dC := dC) (dI := dI) (G0 := G0) (k := 2) (rs := [bo, ou]) (H0 := s.heap) (F := [(2, 0), (2, 1)]) (C := RX0) (T := TX0) (N := 2) rfl (by decide) hh_76.2.2.2.2.1 (hd_77))
    clear hh_76
    try simp only at hr_65
    obtain ⟨hr_65_0, hr_65_1, hr_65_2, hr_65_3, hr_65_4⟩ := hr_65
    have hh_79 := hh_78.wk (zc1 := (m_qa_64 - n_pa) / 16 + 1) (zs1 := 2 * (m_qa_64 - n_pa) + 40) (by omega) (by omega)
    clear hh_78
    try clear hsz_64 htt_64 hrc_64 hrs_64
    try clear hb_644 hb_645
    refine lv_goto (tgt := 66) hx hb dX11_answerOrWait_12 (by decide) ?_
    have hsz_80 := hh_79.2.2.2.2.2.1
    have htt_80 := hh_79.2.2.2.2.2.2.1
    refine W.room (fun hrc_80 hrs_80 => ?_)
    refine W.widen (k := LC - s.heap.size) (n := LS - jTot s.heap) (by omega) (by omega) ?_
    rw [hQ]
    exact W.vret hx hb hr (fun t ht hW => ⟨⟨(qc_64, qa_64, m_qa_64, G_64), rfl, by (try dsimp only); exact ⟨(by first | omega | rfl | assumption | fail), (by first | omega | rfl | assumption | fail), (by first | omega | rfl | assumption | fail), (by first | omega | rfl | assumption | fail), (by first | assumption | fail | omega)⟩, ⟨hh_79.ra (by first | omega | (simp only; omega)) (by first | omega | (simp only; omega)) (M1 := [(bo, 2, 1, .int qc_64), (bo, 2, 0, .ref qa_64)]) [0, 1] rfl ht, hgq_64_0, hNn_64, by rw [ht]; exact hh_79.iv 0 rfl, by rw [ht]; exact hh_79.2.2.2.2.2.2.2.2.sub (L1 := [(jFy, jYb dC dI G_64), (jFs11, jSef dC dI G_64), (jFl, jLs dC dI ca G_64 3 none)]) [1, 3, 2] rfl⟩⟩, by rw [ht]; try exact hh_79.1.1, fun q h9 hq => by rw [ht]; try exact hh_79.1.2.1 q h9 hq⟩) hh_79.1.2.2 dX11_answerOrWait_66
