theorem dX11_closeDocument_0 : decode cX11_closeDocument 0 = .ok (.aload_n 0, 1) := by decide +kernel
theorem dX11_closeDocument_1 : decode cX11_closeDocument 1 = .ok (.invokevirtual 359, 3) := by decide +kernel
theorem dX11_closeDocument_4 : decode cX11_closeDocument 4 = .ok (.astore_n 1, 1) := by decide +kernel
theorem dX11_closeDocument_5 : decode cX11_closeDocument 5 = .ok (.aload_n 0, 1) := by decide +kernel
theorem dX11_closeDocument_6 : decode cX11_closeDocument 6 = .ok (.aload_n 1, 1) := by decide +kernel
theorem dX11_closeDocument_7 : decode cX11_closeDocument 7 = .ok (.invokevirtual 154, 3) := by decide +kernel
theorem dX11_closeDocument_10 : decode cX11_closeDocument 10 = .ok (.istore_n 2, 1) := by decide +kernel
theorem dX11_closeDocument_11 : decode cX11_closeDocument 11 = .ok (.aload_n 1, 1) := by decide +kernel
theorem dX11_closeDocument_12 : decode cX11_closeDocument 12 = .ok (.ifnull 7, 3) := by decide +kernel
theorem dX11_closeDocument_15 : decode cX11_closeDocument 15 = .ok (.iload_n 2, 1) := by decide +kernel
theorem dX11_closeDocument_16 : decode cX11_closeDocument 16 = .ok (.ifCond .ge 4, 3) := by decide +kernel
theorem dX11_closeDocument_19 : decode cX11_closeDocument 19 = .ok (.return_, 1) := by decide +kernel
theorem dX11_closeDocument_20 : decode cX11_closeDocument 20 = .ok (.aload_n 0, 1) := by decide +kernel
theorem dX11_closeDocument_21 : decode cX11_closeDocument 21 = .ok (.aload_n 1, 1) := by decide +kernel
theorem dX11_closeDocument_22 : decode cX11_closeDocument 22 = .ok (.invokevirtual 403, 3) := by decide +kernel
theorem dX11_closeDocument_25 : decode cX11_closeDocument 25 = .ok (.aload_n 0, 1) := by decide +kernel
theorem dX11_closeDocument_26 : decode cX11_closeDocument 26 = .ok (.aload_n 1, 1) := by decide +kernel
theorem dX11_closeDocument_27 : decode cX11_closeDocument 27 = .ok (.invokevirtual 397, 3) := by decide +kernel
theorem dX11_closeDocument_30 : decode cX11_closeDocument 30 = .ok (.aload_n 0, 1) := by decide +kernel
theorem dX11_closeDocument_31 : decode cX11_closeDocument 31 = .ok (.getfield 61, 3) := by decide +kernel
theorem dX11_closeDocument_34 : decode cX11_closeDocument 34 = .ok (.iload_n 2, 1) := by decide +kernel
theorem dX11_closeDocument_35 : decode cX11_closeDocument 35 = .ok (.invokeinterface 423 2, 5) := by decide +kernel
theorem dX11_closeDocument_40 : decode cX11_closeDocument 40 = .ok (.pop, 1) := by decide +kernel
theorem dX11_closeDocument_41 : decode cX11_closeDocument 41 = .ok (.aload_n 0, 1) := by decide +kernel
theorem dX11_closeDocument_42 : decode cX11_closeDocument 42 = .ok (.aload_n 1, 1) := by decide +kernel
theorem dX11_closeDocument_43 : decode cX11_closeDocument 43 = .ok (.iconst 0, 1) := by decide +kernel
theorem dX11_closeDocument_44 : decode cX11_closeDocument 44 = .ok (.invokevirtual 378, 3) := by decide +kernel
theorem dX11_closeDocument_47 : decode cX11_closeDocument 47 = .ok (.return_, 1) := by decide +kernel
theorem dX11_aimAtPlace_0 : decode cX11_aimAtPlace 0 = .ok (.aload_n 0, 1) := by decide +kernel
theorem dX11_aimAtPlace_1 : decode cX11_aimAtPlace 1 = .ok (.invokevirtual 359, 3) := by decide +kernel
theorem dX11_aimAtPlace_4 : decode cX11_aimAtPlace 4 = .ok (.astore_n 2, 1) := by decide +kernel
theorem dX11_aimAtPlace_5 : decode cX11_aimAtPlace 5 = .ok (.aload_n 0, 1) := by decide +kernel
theorem dX11_aimAtPlace_6 : decode cX11_aimAtPlace 6 = .ok (.getfield 28, 3) := by decide +kernel
theorem dX11_aimAtPlace_9 : decode cX11_aimAtPlace 9 = .ok (.aload_n 0, 1) := by decide +kernel
theorem dX11_aimAtPlace_10 : decode cX11_aimAtPlace 10 = .ok (.getfield 28, 3) := by decide +kernel
theorem dX11_aimAtPlace_13 : decode cX11_aimAtPlace 13 = .ok (.iconst 0, 1) := by decide +kernel
theorem dX11_aimAtPlace_14 : decode cX11_aimAtPlace 14 = .ok (.ldc_w 271, 3) := by decide +kernel
theorem dX11_aimAtPlace_17 : decode cX11_aimAtPlace 17 = .ok (.invokevirtual 260, 3) := by decide +kernel
theorem dX11_aimAtPlace_20 : decode cX11_aimAtPlace 20 = .ok (.ldc_w 430, 3) := by decide +kernel
theorem dX11_aimAtPlace_23 : decode cX11_aimAtPlace 23 = .ok (.invokevirtual 260, 3) := by decide +kernel
theorem dX11_aimAtPlace_26 : decode cX11_aimAtPlace 26 = .ok (.istore_n 3, 1) := by decide +kernel
theorem dX11_aimAtPlace_27 : decode cX11_aimAtPlace 27 = .ok (.aload_n 2, 1) := by decide +kernel
theorem dX11_aimAtPlace_28 : decode cX11_aimAtPlace 28 = .ok (.ifnonnull 7, 3) := by decide +kernel
theorem dX11_aimAtPlace_31 : decode cX11_aimAtPlace 31 = .ok (.iconst (-1), 1) := by decide +kernel
theorem dX11_aimAtPlace_32 : decode cX11_aimAtPlace 32 = .ok (.goto 9, 3) := by decide +kernel
theorem dX11_aimAtPlace_35 : decode cX11_aimAtPlace 35 = .ok (.aload_n 0, 1) := by decide +kernel
theorem dX11_aimAtPlace_36 : decode cX11_aimAtPlace 36 = .ok (.iload_n 3, 1) := by decide +kernel
theorem dX11_aimAtPlace_37 : decode cX11_aimAtPlace 37 = .ok (.aload_n 2, 1) := by decide +kernel
theorem dX11_aimAtPlace_38 : decode cX11_aimAtPlace 38 = .ok (.invokevirtual 409, 3) := by decide +kernel
theorem dX11_aimAtPlace_41 : decode cX11_aimAtPlace 41 = .ok (.istore 4, 2) := by decide +kernel
theorem dX11_aimAtPlace_43 : decode cX11_aimAtPlace 43 = .ok (.iload 4, 2) := by decide +kernel
theorem dX11_aimAtPlace_45 : decode cX11_aimAtPlace 45 = .ok (.ifCond .ge 5, 3) := by decide +kernel
theorem dX11_aimAtPlace_48 : decode cX11_aimAtPlace 48 = .ok (.iconst 0, 1) := by decide +kernel
theorem dX11_aimAtPlace_49 : decode cX11_aimAtPlace 49 = .ok (.ireturn, 1) := by decide +kernel
theorem dX11_aimAtPlace_50 : decode cX11_aimAtPlace 50 = .ok (.aload_n 1, 1) := by decide +kernel
theorem dX11_aimAtPlace_51 : decode cX11_aimAtPlace 51 = .ok (.aload_n 2, 1) := by decide +kernel
theorem dX11_aimAtPlace_52 : decode cX11_aimAtPlace 52 = .ok (.putfield 432, 3) := by decide +kernel
theorem dX11_aimAtPlace_55 : decode cX11_aimAtPlace 55 = .ok (.aload_n 1, 1) := by decide +kernel
theorem dX11_aimAtPlace_56 : decode cX11_aimAtPlace 56 = .ok (.aload_n 2, 1) := by decide +kernel
theorem dX11_aimAtPlace_57 : decode cX11_aimAtPlace 57 = .ok (.iload 4, 2) := by decide +kernel
theorem dX11_aimAtPlace_59 : decode cX11_aimAtPlace 59 = .ok (.invokevirtual 435, 3) := by decide +kernel
theorem dX11_aimAtPlace_62 : decode cX11_aimAtPlace 62 = .ok (.putfield 438, 3) := by decide +kernel
theorem dX11_aimAtPlace_65 : decode cX11_aimAtPlace 65 = .ok (.iconst 1, 1) := by decide +kernel
theorem dX11_aimAtPlace_66 : decode cX11_aimAtPlace 66 = .ok (.ireturn, 1) := by decide +kernel
def EX11_closeDocument : List (Nat × Nat) := [(1, 0), (1, 2), (2, 0), (2, 1), (3, 11), (3, 12), (3, 13), (3, 14), (3, 15), (3, 16), (13, 14), (196, 0), (212, 0), (221, 0), (222, 0), (223, 0)]
def EX11_aimAtPlace : List (Nat × Nat) := [(10, 1), (10, 2)]
set_option maxHeartbeats 4000000 in
set_option maxRecDepth 20000 in
theorem uX11_closeDocument (l : Launch) (dC : Nat → ClassId) (dI : Nat → Nat → Nat) (ca : Nat → ClassId) (base : Nat) (B : jF) (hB : jBok B) (hAp : jAp (dC, dI)) (hB1 : ∀ n G a H, B 1 n G a H ↔ jOb (dC, dI) 1 3 (F1 n G) a H) (hB2 : ∀ n G a H, B 2 n G a H ↔ jOb (dC, dI) 2 2 (F2 n G) a H) (hB3 : ∀ n G a H, B 3 n G a H ↔ jOb (dC, dI) 3 17 (F3 n G) a H) (hB4 : ∀ n G a H, B 4 n G a H ↔ jOb (dC, dI) 4 12 (F4 n G) a H) (hB6 : ∀ n G a H, B 6 n G a H ↔ jOb (dC, dI) 6 12 (F6 n G) a H) (hB10 : ∀ n G a H, B 10 n G a H ↔ jOb (dC, dI) 10 5 (F10 n G) a H) (hB11 : ∀ n G a H, B 11 n G a H ↔ jOb (dC, dI) 11 9 (F11 n G) a H) (hB13 : ∀ n G a H, B 13 n G a H ↔ jOb (dC, dI) 13 19 (F13 n G) a H) (hB101 : ∀ n G a H, B 101 n G a H ↔ jAr (dC, dI) (ca 1) (fun j z => True) n a H) (hB140 : ∀ n G a H, B 140 n G a H ↔ jAr (dC, dI) (ca 1) (fun j z => True) n a H) (hB141 : ∀ n G a H, B 141 n G a H ↔ jAr (dC, dI) (ca 1) (fun j z => True) n a H) (hB142 : ∀ n G a H, B 142 n G a H ↔ jAr (dC, dI) (ca 1) (fun j z => True) n a H) (hB143 : ∀ n G a H, B 143 n G a H ↔ jAr (dC, dI) (ca 1) (fun j z => True) n a H) (hB144 : ∀ n G a H, B 144 n G a H ↔ jAr (dC, dI) (ca 1) (fun j z => 0 ≤ z.toInt ∧ z.toInt ≤ 3000) n a H) (hB145 : ∀ n G a H, B 145 n G a H ↔ jAr (dC, dI) (ca 1) (fun j z => True) n a H) (hB146 : ∀ n G a H, B 146 n G a H ↔ jAr (dC, dI) (ca 1) (fun j z => True) n a H) (hB171 : ∀ n G a H, B 171 n G a H ↔ jAr (dC, dI) (ca 1) (fun j z => 0 ≤ z.toInt ∧ z.toInt ≤ 1500) n a H) (hB172 : ∀ n G a H, B 172 n G a H ↔ jAr (dC, dI) (ca 1) (fun j z => 0 ≤ z.toInt ∧ z.toInt ≤ 1500) n a H) (hB196 : ∀ n G a H, B 196 n G a H ↔ jAr (dC, dI) (ca 0) (fun j z => jBf j z) n a H) (hB210 : ∀ n G a H, B 210 n G a H ↔ jAq (dC, dI) (ca 6) (jQn 11 0) n G a H) (hB212 : ∀ n G a H, B 212 n G a H ↔ jAq (dC, dI) (ca 5) (jQn 3 0) n G a H) (hB221 : ∀ n G a H, B 221 n G a H ↔ jAq (dC, dI) (ca 9) (jQn 3 0) n G a H) (hB222 : ∀ n G a H, B 222 n G a H ↔ jAq (dC, dI) (ca 9) (jQn 10 0) n G a H) (G0 : jT) (H0 : Heap) (r0 : Nat) (bo : Nat) (pc : Int32) (pa : Nat) (n_pa : Nat) (ou : Nat) (op : Nat) (sz : Int32) (LC LS : Nat) : Met l yX11_closeDocument (jw yX11_closeDocument cX11_closeDocument 3 none) ({ frames := 8, cells := LC - H0.size, slots := LS - jTot H0, locals := 231 }) (va_Pc [.ref r0] (fun U => U.heap = H0 ∧ jX B base G0 [] H0 ∧ jG dC dI ca base U ∧ jK2 dC dI ca U ∧ jK5 dC dI ca U ∧ jK7 dC dI ca base U ∧ G0 r0 = some (13, 0) ∧ G0 bo = some (2, 0) ∧ G0 pa = some (196, n_pa) ∧ G0 ou = some (2, 20000) ∧ G0 op = some (1, 1) ∧ jP (dC, dI) G0 H0 [(r0, 13, 4, .ref bo), (bo, 2, 1, .int pc), (bo, 2, 0, .ref pa), (r0, 13, 3, .ref ou), (r0, 13, 7, .ref op), (op, 1, 2, .int sz)] ∧ jIs (dC, dI) G0 H0 [(jFy, jYb dC dI G0), (jFl, jLs dC dI ca G0 3 none)] ∧ H0.size + (1048576 - n_pa) / 16 + 1 ≤ LC ∧ jTot H0 + 2 * (1048576 - n_pa) ≤ LS ∧ 0 ≤ pc.toInt ∧ pc.toInt ≤ n_pa ∧ 16 ≤ n_pa ∧ n_pa ≤ 1048576 ∧ jPw n_pa ∧ 0 ≤ sz.toInt ∧ sz.toInt ≤ 40)) (va_Qv (S := Int32 × Nat × Nat × jT) (fun u => 0 ≤ u.1.toInt ∧ u.1.toInt ≤ u.2.2.1 ∧ n_pa ≤ u.2.2.1 ∧ u.2.2.1 ≤ 1048576 ∧ jPw u.2.2.1) (fun u t => jRa (dC, dI) B base G0 u.2.2.2 EX11_closeDocument H0 ((u.2.2.1 - n_pa) / 16) (2 * (u.2.2.1 - n_pa)) [(bo, 2, 1, .int u.1), (bo, 2, 0, .ref u.2.1)] t.heap ∧ u.2.2.2 u.2.1 = some (196, u.2.2.1) ∧ (jNk [0, 1, 2, 3, 4, 5, 6, 7, 8, 9, 10, 11, 12, 13, 14, 15, 16]) G0 u.2.2.2 ∧ jOl (dC, dI) G0 2 [bo, ou] H0 t.heap ∧ jIs (dC, dI) u.2.2.2 t.heap [(jFy, jYb dC dI u.2.2.2), (jFl, jLs dC dI ca u.2.2.2 3 none)]) (jA base)) (LC - H0.size) (LS - jTot H0) (jA base) := by
  refine Met.ofW (cc := cX11_closeDocument) (maxL := 3) (ret := none) (by decide) rfl ?_
  intro p e s m args below meth c s₁ Bd hml hv
  obtain ⟨rfl, hH0, hX, hG, hK2, hK5, hK7, hg_r0, hg_bo, hg_pa, hg_ou, hg_op, hP0, hI0, hLC0, hLS0, hp0, hp1, hp2, hp3, hp4, hp5, hp6⟩ := hv
  have hK := hG.1
  have hx := Bd.exec
  have hb := Bd.bytes
  have hr := Bd.returns
  have hts := atoms_spec (ws := (jw yX11_closeDocument cX11_closeDocument 3 none)) Bd.pre
  have htw : ∀ w ∈ jWl, w.before _ s = true := fun w h => hts w (List.mem_cons_of_mem _ h)
  have hown : s.vm.findClass RX11 = some m.cls := findClass_of_methodNamed Bd.named
  have hlocks := Bd.notSynchronized
  obtain ⟨Q, hQ⟩ : ∃ Q, Q = MQ below (va_Qv (S := Int32 × Nat × Nat × jT) (fun u => 0 ≤ u.1.toInt ∧ u.1.toInt ≤ u.2.2.1 ∧ n_pa ≤ u.2.2.1 ∧ u.2.2.1 ≤ 1048576 ∧ jPw u.2.2.1) (fun u t => jRa (dC, dI) B base G0 u.2.2.2 EX11_closeDocument H0 ((u.2.2.1 - n_pa) / 16) (2 * (u.2.2.1 - n_pa)) [(bo, 2, 1, .int u.1), (bo, 2, 0, .ref u.2.1)] t.heap ∧ u.2.2.2 u.2.1 = some (196, u.2.2.1) ∧ (jNk [0, 1, 2, 3, 4, 5, 6, 7, 8, 9, 10, 11, 12, 13, 14, 15, 16]) G0 u.2.2.2 ∧ jOl (dC, dI) G0 2 [bo, ou] H0 t.heap ∧ jIs (dC, dI) u.2.2.2 t.heap [(jFy, jYb dC dI u.2.2.2), (jFl, jLs dC dI ca u.2.2.2 3 none)]) (jA base)) ([.ref r0] : List Value).toArray s (LC - H0.size) (LS - jTot H0) (jA base) := ⟨_, rfl⟩
  rw [← hQ]
  have hl := lv_entry ([.ref r0]) (n := 3) (Nat.le_of_ble_eq_true rfl)
  rw [lg_entry_eq]
  generalize (lg_sl ([.ref r0]) ++ List.replicate (3 - (lg_sl ([.ref r0])).length) Slot.unset).toArray = ls at hl ⊢
  have hl : lv_has ls 3 [(0, .ref r0)] := hl
  generalize hR : (headSpec (jw yX11_closeDocument cX11_closeDocument 3 none) ({ frames := 8, cells := LC - H0.size, slots := LS - jTot H0, locals := 231 })).room = R
  subst hH0
  have hh : jSt (dC, dI) B base G0 G0 EX11_closeDocument s.heap 0 0 [(r0, 13, 4, .ref bo), (bo, 2, 1, .int pc), (bo, 2, 0, .ref pa), (r0, 13, 3, .ref ou), (r0, 13, 7, .ref op), (op, 1, 2, .int sz)] [] [(jFy, jYb dC dI G0), (jFl, jLs dC dI ca G0 3 none)] s.heap [] := jSt.start hX hP0 jMc.nil hI0
  clear hX hP0
  have hk0 : (0 : Int32).toInt = 0 := by decide
  have hk1 : (1 : Int32).toInt = 1 := by decide
  have hly_13_7 := htw (u_lay RX11 TX11 7) (jWc_wsX110 _ (u_in_lay (by decide)))
  have hlk_61 := (htw (.fieldLink RX11 61 "ProofServer" "open" "Ljava/util/List;") (jWr_2 _ (List.mem_of_getElem? (i := 14) rfl)))
  have hbs : base ≤ s.heap.size := Nat.le_of_lt (Nat.lt_of_le_of_lt (hh.ab hg_r0).1 (hh.ab hg_r0).2)
  have hRc : R.cells = LC - s.heap.size := by rw [← hR]; rfl
  have hRs : R.slots = LS - jTot s.heap := by rw [← hR]; rfl
  have hh_1 := hh.addI (jOl.ie (dC := dC) (dI := dI) (G0 := G0) (k := 2) (rs := [bo, ou]) (H0 := s.heap) (F := [(2, 0), (2, 1)]) (C := RX0) (T := TX0) (N := 2) rfl (by decide) hh.2.2.2.2.1 (jOl.rf))
  clear hh
  refine lv_aload_n hx hb dX11_closeDocument_0 rfl (lv_at hl 0 rfl) ?_
  have hsz_2 := hh_1.2.2.2.2.2.1
  have htt_2 := hh_1.2.2.2.2.2.2.1
  refine W.room (fun hrc_2 hrs_2 => ?_)
  refine j_callx (A0 := jA base) (H0 := s.heap) (va_runV (As := []) (rest := []) ⟨hx, hb, hml, hown, hts⟩ (uX11_addressed l dC dI ca base B hB hAp hB1 hB3 hB6 hB13 hB101 hB140 hB141 hB142 hB143 hB144 hB145 hB146 hB221 G0 s.heap r0) (cwV 0 hts (jgV (jWr_27 _ (List.mem_of_getElem? (i := 16) rfl)) (jWr_27 _ (List.mem_of_getElem? (i := 17) rfl)) (jWr_27 _ (List.mem_of_getElem? (i := 18) rfl)) (jWr_1 _ (List.mem_of_getElem? (i := 2) rfl)) (jWr_27 _ (List.mem_of_getElem? (i := 19) rfl))) rfl rfl rfl (by decide +kernel) ⟨by rw [← hR]; exact Nat.le_of_ble_eq_true rfl, by rw [← hR]; exact Nat.le_of_ble_eq_true rfl⟩) ⟨fun a U g mk q => by obtain ⟨q0, q1, q2, qK, q10, q11, q12, q13, q14⟩ := q; exact ⟨q0, q1, q2, jG.calling g mk a qK, (jK7.calling g mk a q10), q11, q12, q13, q14⟩, hh_1.recv (C := RX11) (T := TX11) (N := 19) hB13 rfl (by decide) hg_r0 hK, fun U hU hW => ⟨rfl, hU, hh_1.2.1, hG.step hW hU hh_1.1, (hK7.step hW hU hh_1.1), hg_r0, jP.nil, (hh_1.2.2.2.2.2.2.2.2.sub (L1 := [(jFl, jLs dC dI ca G0 3 none)]) [2] rfl), trivial⟩⟩ rfl rfl hl.1 rfl (lv_room (Nat.le_of_ble_eq_true rfl)) dX11_closeDocument_1 ⟨by rw [hRc]; show _ + 0 ≤ _; omega, by rw [hRs]; show _ + 0 ≤ _; omega⟩) hh_1.1 (fun q _ h => h) (fun q h => h) (fun r_3 u_2 t_2 H_2 locs_2 ht_2 hvm_2 hr_3 hb_2 hz_2 hk_2 hS_2 => ?_)
  rw [ht_2] at hb_2
  obtain ⟨hb_2, hbE_2⟩ := hb_2
  obtain ⟨hb_21, hb_22, hb_23, hb_24, hb_25⟩ := hb_2
  have hh_2 : jSt (dC, dI) B base G0 G0 EX11_closeDocument s.heap 0 0 [(r0, 13, 4, .ref bo), (bo, 2, 1, .int pc), (bo, 2, 0, .ref pa), (r0, 13, 3, .ref ou), (r0, 13, 7, .ref op), (op, 1, 2, .int sz)] [] [(jFl, jLs dC dI ca G0 3 none), ([(2, 0), (2, 1)], jOl (dC, dI) G0 2 [bo, ou] s.heap), (jFy, jYb dC dI G0)] H_2 locs_2 := (((hh_1.call hb_21 hb_22 hb_23 hb_24 hS_2 rfl (L1 := [(r0, 13, 4, .ref bo), (bo, 2, 1, .int pc), (bo, 2, 0, .ref pa), (r0, 13, 3, .ref ou), (r0, 13, 7, .ref op), (op, 1, 2, .int sz)]) [0, 1, 2, 3, 4, 5] rfl rfl (M1 := []) [] rfl rfl (I1 := [([(2, 0), (2, 1)], jOl (dC, dI) G0 2 [bo, ou] s.heap), (jFy, jYb dC dI G0)]) [0, 1] rfl rfl).more hb_25)).addIs hbE_2
  clear hh_1 ht_2 hvm_2 hz_2 hk_2 hS_2 hb_21 hb_22 hb_23 hb_24 hb_25
  clear  hbE_2
  rcases hr_3 with rfl | ⟨ret_4, rfl, hg_ret_4⟩
  · skip
    refine j7_nst_n (lv' := [(1, .null), (0, .ref r0)]) hx hb dX11_closeDocument_4 rfl hl (by decide) rfl (fun ls hl => ?_)
    refine lv_aload_n hx hb dX11_closeDocument_5 rfl (lv_at hl 1 rfl) ?_
    refine j7_nld_n hx hb dX11_closeDocument_6 rfl (lv_at hl 0 rfl) ?_
    have hsz_5 := hh_2.2.2.2.2.2.1
    have htt_5 := hh_2.2.2.2.2.2.2.1
    refine W.room (fun hrc_5 hrs_5 => ?_)
    refine va_calli (A0 := jA base) (H0 := s.heap) (va_runV (As := [.null]) (rest := []) ⟨hx, hb, hml, hown, hts⟩ (uX11_numberOfZ l dC dI ca base B hB hAp hB1 hB3 hB13 hB221 G0 H_2 r0) (cwV 1 hts (jgV (jWr_43 _ (List.mem_of_getElem? (i := 14) rfl)) (jWr_43 _ (List.mem_of_getElem? (i := 15) rfl)) (jWr_43 _ (List.mem_of_getElem? (i := 16) rfl)) (jWr_1 _ (List.mem_of_getElem? (i := 2) rfl)) (jWr_43 _ (List.mem_of_getElem? (i := 17) rfl))) rfl rfl rfl (by decide +kernel) ⟨by rw [← hR]; exact Nat.le_of_ble_eq_true rfl, by rw [← hR]; exact Nat.le_of_ble_eq_true rfl⟩) ⟨fun a U g mk q => by obtain ⟨q0, q1, q2, qK, q10, q11, q12, q13, q14⟩ := q; exact ⟨q0, q1, q2, jG.calling g mk a qK, (jK7.calling g mk a q10), q11, q12, q13, q14⟩, hh_2.recv (C := RX11) (T := TX11) (N := 19) hB13 rfl (by decide) hg_r0 hK, fun U hU hW => ⟨rfl, hU, hh_2.2.1, hG.step hW hU hh_2.1, (hK7.step hW hU hh_2.1), hg_r0, jP.nil, (hh_2.2.2.2.2.2.2.2.2.sub (L1 := [(jFl, jLs dC dI ca G0 3 none)]) [0] rfl), trivial⟩⟩ rfl rfl hl.1 rfl (lv_room (Nat.le_of_ble_eq_true rfl)) dX11_closeDocument_7 ⟨by rw [hRc]; show _ + 0 ≤ _; omega, by rw [hRs]; show _ + 0 ≤ _; omega⟩) hh_2.1 (fun q _ h => h) (fun q h => h) (fun r_6 u_5 t_5 H_5 locs_5 ht_5 hvm_5 hr_6 hb_5 hz_5 hk_5 hS_5 => ?_)
    rw [ht_5] at hb_5
    obtain ⟨hb_5, hbE_5⟩ := hb_5
    obtain ⟨hb_51, hb_52, hb_53, hb_54, hb_55⟩ := hb_5
    have hh_5 : jSt (dC, dI) B base G0 G0 EX11_closeDocument s.heap 0 0 [(r0, 13, 4, .ref bo), (bo, 2, 1, .int pc), (bo, 2, 0, .ref pa), (r0, 13, 3, .ref ou), (r0, 13, 7, .ref op), (op, 1, 2, .int sz)] [] [(jFl, jLs dC dI ca G0 3 none), ([(2, 0), (2, 1)], jOl (dC, dI) G0 2 [bo, ou] s.heap), (jFy, jYb dC dI G0)] H_5 locs_5 := (((hh_2.call hb_51 hb_52 hb_53 hb_54 hS_5 rfl (L1 := [(r0, 13, 4, .ref bo), (bo, 2, 1, .int pc), (bo, 2, 0, .ref pa), (r0, 13, 3, .ref ou), (r0, 13, 7, .ref op), (op, 1, 2, .int sz)]) [0, 1, 2, 3, 4, 5] rfl rfl (M1 := []) [] rfl rfl (I1 := [([(2, 0), (2, 1)], jOl (dC, dI) G0 2 [bo, ou] s.heap), (jFy, jYb dC dI G0)]) [1, 2] rfl rfl).more hb_55)).addIs hbE_5
    clear hh_2 ht_5 hvm_5 hz_5 hk_5 hS_5 hb_51 hb_52 hb_53 hb_54 hb_55
    clear  hbE_5
    refine lv_istore_n (lv' := [(2, .int r_6), (1, .null), (0, .ref r0)]) hx hb dX11_closeDocument_10 rfl hl (by decide) rfl (fun ls hl => ?_)
    refine j7_nld_n hx hb dX11_closeDocument_11 rfl (lv_at hl 1 rfl) ?_
    refine lv_ifnullN (tgt := 19) hx hb dX11_closeDocument_12 (by decide) ?_
    have hsz_7 := hh_5.2.2.2.2.2.1
    have htt_7 := hh_5.2.2.2.2.2.2.1
    refine W.room (fun hrc_7 hrs_7 => ?_)
    refine W.widen (k := LC - s.heap.size) (n := LS - jTot s.heap) (by omega) (by omega) ?_
    rw [hQ]
    exact W.vret hx hb hr (fun t ht hW => ⟨⟨(pc, pa, n_pa, G0), rfl, by (try dsimp only); exact ⟨(by first | omega | rfl | assumption | fail), (by first | omega | rfl | assumption | fail), (by first | omega | rfl | assumption | fail), (by first | omega | rfl | assumption | fail), (by first | assumption | fail | omega)⟩, ⟨hh_5.ra (by first | omega | (simp only; omega)) (by first | omega | (simp only; omega)) (M1 := [(bo, 2, 1, .int pc), (bo, 2, 0, .ref pa)]) [1, 2] rfl ht, hg_pa, jNk.rf, by rw [ht]; exact hh_5.iv 1 rfl, by rw [ht]; exact hh_5.2.2.2.2.2.2.2.2.sub (L1 := [(jFy, jYb dC dI G0), (jFl, jLs dC dI ca G0 3 none)]) [2, 0] rfl⟩⟩, by rw [ht]; try exact hh_5.1.1, fun q h9 hq => by rw [ht]; try exact hh_5.1.2.1 q h9 hq⟩) hh_5.1.2.2 dX11_closeDocument_19
  · skip
    refine lv_astore_n (lv' := [(1, .ref ret_4), (0, .ref r0)]) hx hb dX11_closeDocument_4 rfl hl (by decide) rfl (fun ls hl => ?_)
    refine lv_aload_n hx hb dX11_closeDocument_5 rfl (lv_at hl 1 rfl) ?_
    refine lv_aload_n hx hb dX11_closeDocument_6 rfl (lv_at hl 0 rfl) ?_
    have hsz_8 := hh_2.2.2.2.2.2.1
    have htt_8 := hh_2.2.2.2.2.2.2.1
    refine W.room (fun hrc_8 hrs_8 => ?_)
    refine va_calli (A0 := jA base) (H0 := s.heap) (va_runV (As := [.ref ret_4]) (rest := []) ⟨hx, hb, hml, hown, hts⟩ (uX11_numberOf l dC dI ca base B hB hAp hB1 hB3 hB13 hB221 G0 H_2 r0 ret_4 op sz) (cwV 1 hts (jgV (jWr_43 _ (List.mem_of_getElem? (i := 14) rfl)) (jWr_43 _ (List.mem_of_getElem? (i := 15) rfl)) (jWr_43 _ (List.mem_of_getElem? (i := 16) rfl)) (jWr_1 _ (List.mem_of_getElem? (i := 2) rfl)) (jWr_43 _ (List.mem_of_getElem? (i := 17) rfl))) rfl rfl rfl (by decide +kernel) ⟨by rw [← hR]; exact Nat.le_of_ble_eq_true rfl, by rw [← hR]; exact Nat.le_of_ble_eq_true rfl⟩) ⟨fun a U g mk q => by obtain ⟨q0, q1, q2, qK, q10, q11, q12, q13, q14, q15, q16⟩ := q; exact ⟨q0, q1, q2, jG.calling g mk a qK, (jK7.calling g mk a q10), q11, q12, q13, q14, q15, q16⟩, hh_2.recv (C := RX11) (T := TX11) (N := 19) hB13 rfl (by decide) hg_r0 hK, fun U hU hW => ⟨rfl, hU, hh_2.2.1, hG.step hW hU hh_2.1, (hK7.step hW hU hh_2.1), hg_r0, hg_ret_4, hg_op, (hh_2.2.2.1.sub (L1 := [(r0, 13, 7, .ref op), (op, 1, 2, .int sz)]) [4, 5] rfl), (hh_2.2.2.2.2.2.2.2.2.sub (L1 := [(jFl, jLs dC dI ca G0 3 none)]) [0] rfl), ⟨(by first | omega | rfl | assumption | fail), (by first | omega | rfl | assumption | fail)⟩⟩⟩ rfl rfl hl.1 rfl (lv_room (Nat.le_of_ble_eq_true rfl)) dX11_closeDocument_7 ⟨by rw [hRc]; show _ + 0 ≤ _; omega, by rw [hRs]; show _ + 0 ≤ _; omega⟩) hh_2.1 (fun q _ h => h) (fun q h => h) (fun r_9 u_8 t_8 H_8 locs_8 ht_8 hvm_8 hr_9 hb_8 hz_8 hk_8 hS_8 => ?_)
    rw [ht_8] at hb_8
    obtain ⟨hb_8, hbE_8⟩ := hb_8
    obtain ⟨hb_81, hb_82, hb_83, hb_84, hb_85⟩ := hb_8
    have hh_8 : jSt (dC, dI) B base G0 G0 EX11_closeDocument s.heap 0 0 [(r0, 13, 4, .ref bo), (bo, 2, 1, .int pc), (bo, 2, 0, .ref pa), (r0, 13, 3, .ref ou), (r0, 13, 7, .ref op), (op, 1, 2, .int sz)] [] [(jFl, jLs dC dI ca G0 3 none), ([(2, 0), (2, 1)], jOl (dC, dI) G0 2 [bo, ou] s.heap), (jFy, jYb dC dI G0)] H_8 locs_8 := (((hh_2.call hb_81 hb_82 hb_83 hb_84 hS_8 rfl (L1 := [(r0, 13, 4, .ref bo), (bo, 2, 1, .int pc), (bo, 2, 0, .ref pa), (r0, 13, 3, .ref ou), (r0, 13, 7, .ref op), (op, 1, 2, .int sz)]) [0, 1, 2, 3, 4, 5] rfl rfl (M1 := []) [] rfl rfl (I1 := [([(2, 0), (2, 1)], jOl (dC, dI) G0 2 [bo, ou] s.heap), (jFy, jYb dC dI G0)]) [1, 2] rfl rfl).more hb_85)).addIs hbE_8
    clear hh_2 ht_8 hvm_8 hz_8 hk_8 hS_8 hb_81 hb_82 hb_83 hb_84 hb_85
    clear  hbE_8
    obtain ⟨hr_9_0, hr_9_1⟩ := hr_9
    refine lv_istore_n (lv' := [(2, .int r_9), (1, .ref ret_4), (0, .ref r0)]) hx hb dX11_closeDocument_10 rfl hl (by decide) rfl (fun ls hl => ?_)
    refine lv_aload_n hx hb dX11_closeDocument_11 rfl (lv_at hl 1 rfl) ?_
    refine lv_ifnull hx hb dX11_closeDocument_12 ?_
    refine lv_iload_n hx hb dX11_closeDocument_15 rfl (lv_at hl 0 rfl) ?_
    refine lv_if_ge (tgt := 20) hx hb dX11_closeDocument_16 (by decide) (fun c_10 => ?_) (fun c_10 => ?_)
    · skip
      have c_10' : r_9.toInt ≥ 0 := jb_ge (rfl) ((by decide)) c_10
      first | (have hr_9_1q := hr_9_1.resolve_left (by omega); clear hr_9_1) | (have hr_9_1q := hr_9_1.resolve_right (by omega); clear hr_9_1) | skip
      refine lv_aload_n hx hb dX11_closeDocument_20 rfl (lv_at hl 2 rfl) ?_
      refine lv_aload_n hx hb dX11_closeDocument_21 rfl (lv_at hl 1 rfl) ?_
      have hsz_11 := hh_8.2.2.2.2.2.1
      have htt_11 := hh_8.2.2.2.2.2.2.1
      refine W.room (fun hrc_11 hrs_11 => ?_)
      refine va_callv (A0 := jA base) (H0 := s.heap) (va_runV (As := [.ref ret_4]) (rest := []) ⟨hx, hb, hml, hown, hts⟩ (uX11_release l dC dI ca base B hB hAp hB3 hB11 hB13 hB101 hB212 G0 H_8 r0 ret_4) (cwV 1 hts (jgV (jWr_43 _ (List.mem_of_getElem? (i := 3) rfl)) (jWr_43 _ (List.mem_of_getElem? (i := 4) rfl)) (jWr_43 _ (List.mem_of_getElem? (i := 5) rfl)) (jWr_1 _ (List.mem_of_getElem? (i := 2) rfl)) (jWr_43 _ (List.mem_of_getElem? (i := 6) rfl))) rfl rfl rfl (by decide +kernel) ⟨by rw [← hR]; exact Nat.le_of_ble_eq_true rfl, by rw [← hR]; exact Nat.le_of_ble_eq_true rfl⟩) ⟨fun a U g mk q => by obtain ⟨q0, q1, q2, qK, q10, q11, q12, q13, q14⟩ := q; exact ⟨q0, q1, q2, jG.calling g mk a qK, (va_K.moved (Vm.Alike.refl U.vm) q10), q11, q12, q13, q14⟩, hh_8.recv (C := RX11) (T := TX11) (N := 19) hB13 rfl (by decide) hg_r0 hK, fun U hU hW => ⟨rfl, hU, hh_8.2.1, hG.step hW hU hh_8.1, va_K.moved hW.alike hK2, hg_ret_4, hg_r0, jP.nil, trivial⟩⟩ rfl rfl hl.1 rfl (lv_room (Nat.le_of_ble_eq_true rfl)) dX11_closeDocument_22 ⟨by rw [hRc]; show _ + 0 ≤ _; omega, by rw [hRs]; show _ + 0 ≤ _; omega⟩) hh_8.1 (fun q _ h => h) (fun q h => h) (fun u_11 t_11 H_11 locs_11 ht_11 hvm_11 hr_12 hb_11 hz_11 hk_11 hS_11 => ?_)
      rw [ht_11] at hb_11
      obtain ⟨hb_111, hb_112, hb_113, hb_114, hb_115⟩ := hb_11
      have hh_11 : jSt (dC, dI) B base G0 G0 EX11_closeDocument s.heap 0 0 [(r0, 13, 4, .ref bo), (bo, 2, 1, .int pc), (bo, 2, 0, .ref pa), (r0, 13, 3, .ref ou), (r0, 13, 7, .ref op), (op, 1, 2, .int sz)] [] [(jFl, jLs dC dI ca G0 3 none), ([(2, 0), (2, 1)], jOl (dC, dI) G0 2 [bo, ou] s.heap), (jFy, jYb dC dI G0)] H_11 locs_11 := ((hh_8.call hb_111 hb_112 hb_113 hb_114 hS_11 rfl (L1 := [(r0, 13, 4, .ref bo), (bo, 2, 1, .int pc), (bo, 2, 0, .ref pa), (r0, 13, 3, .ref ou), (r0, 13, 7, .ref op), (op, 1, 2, .int sz)]) [0, 1, 2, 3, 4, 5] rfl rfl (M1 := []) [] rfl rfl (I1 := [(jFl, jLs dC dI ca G0 3 none), ([(2, 0), (2, 1)], jOl (dC, dI) G0 2 [bo, ou] s.heap), (jFy, jYb dC dI G0)]) [0, 1, 2] rfl rfl).more hb_115)
      clear hh_8 ht_11 hvm_11 hz_11 hk_11 hS_11 hb_111 hb_112 hb_113 hb_114 hb_115
      refine lv_aload_n hx hb dX11_closeDocument_25 rfl (lv_at hl 2 rfl) ?_
      refine lv_aload_n hx hb dX11_closeDocument_26 rfl (lv_at hl 1 rfl) ?_
      have hsz_13 := hh_11.2.2.2.2.2.1
      have htt_13 := hh_11.2.2.2.2.2.2.1
      refine W.room (fun hrc_13 hrs_13 => ?_)
      refine va_callv (A0 := jA base) (H0 := s.heap) (va_runV (As := [.ref ret_4]) (rest := []) ⟨hx, hb, hml, hown, hts⟩ (uX11_dismiss l dC dI ca base B hB hAp hB1 hB2 hB3 hB4 hB10 hB13 hB196 hB222 G0 H_11 r0 ret_4 bo pc pa n_pa ou op sz LC LS) (cwV 1 hts (jgV (jWr_42 _ (List.mem_of_getElem? (i := 1) rfl)) (jWr_42 _ (List.mem_of_getElem? (i := 2) rfl)) (jWr_42 _ (List.mem_of_getElem? (i := 3) rfl)) (jWr_1 _ (List.mem_of_getElem? (i := 2) rfl)) (jWr_42 _ (List.mem_of_getElem? (i := 4) rfl))) rfl rfl rfl (by decide +kernel) ⟨by rw [← hR]; exact Nat.le_of_ble_eq_true rfl, by rw [← hR]; exact Nat.le_of_ble_eq_true rfl⟩) ⟨fun a U g mk q => by obtain ⟨q0, q1, q2, qK, q10, q11, q12, q13, q14, q15, q16, q17, q18, q19, q20⟩ := q; exact ⟨q0, q1, q2, jG.calling g mk a qK, (jK5.moved (Vm.Alike.refl U.vm) q10), (jK7.calling g mk a q11), q12, q13, q14, q15, q16, q17, q18, q19, q20⟩, hh_11.recv (C := RX11) (T := TX11) (N := 19) hB13 rfl (by decide) hg_r0 hK, fun U hU hW => ⟨rfl, hU, hh_11.2.1, hG.step hW hU hh_11.1, jK5.moved hW.alike hK5, (hK7.step hW hU hh_11.1), hg_r0, hg_ret_4, hg_bo, hg_pa, hg_ou, hg_op, (hh_11.2.2.1.sub (L1 := [(r0, 13, 4, .ref bo), (bo, 2, 1, .int pc), (bo, 2, 0, .ref pa), (r0, 13, 3, .ref ou), (r0, 13, 7, .ref op), (op, 1, 2, .int sz)]) [0, 1, 2, 3, 4, 5] rfl), (hh_11.2.2.2.2.2.2.2.2.sub (L1 := [(jFy, jYb dC dI G0), (jFl, jLs dC dI ca G0 3 none)]) [2, 0] rfl), (by omega), (by omega), ⟨(by first | omega | rfl | assumption | fail), (by first | omega | rfl | assumption | fail), (by first | omega | rfl | assumption | fail), (by first | omega | rfl | assumption | fail), (by first | assumption | fail | omega)⟩⟩⟩ rfl rfl hl.1 rfl (lv_room (Nat.le_of_ble_eq_true rfl)) dX11_closeDocument_27 ⟨by rw [hRc]; omega, by rw [hRs]; omega⟩) hh_11.1 (fun q _ h => h) (fun q h => h) (fun u_13 t_13 H_13 locs_13 ht_13 hvm_13 hr_14 hb_13 hz_13 hk_13 hS_13 => ?_)
      obtain ⟨qc_13, qz_13, qa_13, m_qa_13, G_13⟩ := u_13
      rw [ht_13] at hb_13
      simp only at hb_13
      obtain ⟨⟨hb_131, hb_132, hb_133, hb_134, hb_135, hb_136⟩, hgq_13_0, hN_13, hbO_13, hbE_13⟩ := hb_13
      have hh_13 : jSt (dC, dI) B base G0 G_13 EX11_closeDocument s.heap (0 + ((m_qa_13 - n_pa) / 16)) (0 + (2 * (m_qa_13 - n_pa))) [(bo, 2, 1, .int qc_13), (op, 1, 2, .int qz_13), (bo, 2, 0, .ref qa_13), (r0, 13, 4, .ref bo), (r0, 13, 3, .ref ou), (r0, 13, 7, .ref op)] [] [] H_13 locs_13 := (hh_11.callG hb_131 hb_132 hb_133 hb_134 hb_135 hS_13 rfl (L1 := [(r0, 13, 4, .ref bo), (r0, 13, 3, .ref ou), (r0, 13, 7, .ref op)]) [0, 3, 4] rfl rfl (M1 := []) [] rfl rfl (I1 := []) [] rfl rfl).more hb_136
      have hNn_13 : (jNk [0, 1, 2, 3, 4, 5, 6, 7, 8, 9, 10, 11, 12, 13, 14, 15, 16]) G0 G_13 := (jNk.rf).tr hN_13
      have hg_15 := hb_132 _ _ hg_ret_4
      have hg_16 := hb_132 _ _ hg_r0
      have hg_17 := hb_132 _ _ hg_bo
      have hg_18 := hb_132 _ _ hg_ou
      have hg_19 := hb_132 _ _ hg_op
      have hh_20 := hh_13.addIs hbE_13
      have hd_21 := jOl.trL (hh_11.iv 1 rfl) hh_11.2.2.2.2.1 hbO_13 (by simp)
      have hh_22 := hh_20.addI (jOl.ie (dC := dC) (dI := dI) (G0 := G0) (k := 2) (rs := [bo, ou]) (H0 := s.heap) (F := [(2, 0), (2, 1)]) (C := RX0) (T := TX0) (N := 2) rfl (by decide) hh_20.2.2.2.2.1 (hd_21))
      clear hh_20
      try simp only at hr_14
      obtain ⟨hr_14_0, hr_14_1, hr_14_2, hr_14_3, hr_14_4, hr_14_5⟩ := hr_14
      have hh_23 := hh_22.wk (zc1 := (m_qa_13 - n_pa) / 16) (zs1 := 2 * (m_qa_13 - n_pa)) (by omega) (by omega)
      clear hh_22
      try clear hsz_13 htt_13 hrc_13 hrs_13
      try clear hb_134 hb_135
      refine lv_aload_n hx hb dX11_closeDocument_30 rfl (lv_at hl 2 rfl) ?_
      refine j7_read hx hb hown hK (C := RX11) (T := TX11) (N := 19) rfl hly_13_7 hlk_61 (hh_23.at 5 rfl) dX11_closeDocument_31 ?_
      refine lv_iload_n hx hb dX11_closeDocument_34 rfl (lv_at hl 0 rfl) ?_
      have hsz_24 := hh_23.2.2.2.2.2.1
      have htt_24 := hh_23.2.2.2.2.2.2.1
      refine W.room (fun hrc_24 hrs_24 => ?_)
      refine j_callFx (A0 := jA base) (H0 := s.heap) (va_runF (hK.1 1 _ rfl).2 (As := [.int r_9]) (rest := []) ⟨hx, hb, hml, hown, hts⟩ (uJx4a65c_remove_915e3L1 l dC dI ca base B hB hAp hB1 hB3 hB221 G_13 H_13 op r_9 qz_13) (va_cwF 1 hts (jgF (jWr_42 _ (List.mem_of_getElem? (i := 7) rfl)) (jWr_42 _ (List.mem_of_getElem? (i := 8) rfl)) (jWr_42 _ (List.mem_of_getElem? (i := 9) rfl)) (jWr_2 _ (List.mem_of_getElem? (i := 13) rfl)) (jWr_42 _ (List.mem_of_getElem? (i := 10) rfl))) rfl rfl rfl hK7.2.2.2.2.2.1.2.2.2 ⟨by decide, by decide, by decide +kernel⟩ ⟨by rw [← hR]; exact Nat.le_of_ble_eq_true rfl, by rw [← hR]; exact Nat.le_of_ble_eq_true rfl⟩) ⟨fun a U g mk q => by obtain ⟨q0, q1, q2, qK, q10, q11, q12, q13, q14⟩ := q; exact ⟨q0, q1, q2, jG.calling g mk a qK, (jK7.calling g mk a q10), q11, q12, q13, q14⟩, hh_23.recv (C := RJx4a65c) (T := TJx4a65c) (N := 3) hB1 rfl (by decide) hg_19 hK, fun U hU hW => ⟨rfl, hU, hh_23.2.1, hG.step hW hU hh_23.1, (hK7.step hW hU hh_23.1), hg_19, (hh_23.2.2.1.sub (L1 := [(op, 1, 2, .int qz_13)]) [1] rfl), (hh_23.2.2.2.2.2.2.2.2.sub (L1 := [(jFl, jLs dC dI ca G_13 3 none)]) [2] rfl), ⟨(by first | omega | rfl | assumption | fail), (by first | omega | rfl | assumption | fail)⟩⟩⟩ rfl rfl hl.1 rfl (lv_room (Nat.le_of_ble_eq_true rfl)) dX11_closeDocument_35 ⟨by rw [hRc]; show _ + 0 ≤ _; omega, by rw [hRs]; show _ + 0 ≤ _; omega⟩) hh_23.1 (fun q _ h => h) (fun q h => h) (fun r_25 u_24 t_24 H_24 locs_24 ht_24 hvm_24 hr_25 hb_24 hz_24 hk_24 hS_24 => ?_)
      obtain ⟨qz_24, rfl⟩ : ∃ z, z = u_24 := ⟨_, rfl⟩
      rw [ht_24] at hb_24
      obtain ⟨hb_24, hbE_24⟩ := hb_24
      obtain ⟨hb_24, hbO_24⟩ := hb_24
      obtain ⟨hb_241, hb_242, hb_243, hb_244, hb_245⟩ := hb_24
      have hh_24 : jSt (dC, dI) B base G0 G_13 EX11_closeDocument s.heap ((m_qa_13 - n_pa) / 16) (2 * (m_qa_13 - n_pa)) [(op, 1, 2, .int qz_24), (bo, 2, 1, .int qc_13), (bo, 2, 0, .ref qa_13), (r0, 13, 4, .ref bo), (r0, 13, 3, .ref ou), (r0, 13, 7, .ref op)] [] [(jFl, jLs dC dI ca G_13 3 none), ([(2, 0), (2, 1)], jOl (dC, dI) G0 2 [bo, ou] s.heap), (jFy, jYb dC dI G_13)] H_24 locs_24 := (((hh_23.call hb_241 hb_242 hb_243 hb_244 hS_24 rfl (L1 := [(bo, 2, 1, .int qc_13), (bo, 2, 0, .ref qa_13), (r0, 13, 4, .ref bo), (r0, 13, 3, .ref ou), (r0, 13, 7, .ref op)]) [0, 2, 3, 4, 5] rfl rfl (M1 := []) [] rfl rfl (I1 := [([(2, 0), (2, 1)], jOl (dC, dI) G0 2 [bo, ou] s.heap), (jFy, jYb dC dI G_13)]) [0, 1] rfl rfl).more hb_245)).addIs hbE_24
      clear hh_23 ht_24 hvm_24 hz_24 hk_24 hS_24 hb_241 hb_242 hb_243 hb_244 hb_245
      clear  hbE_24
      obtain ⟨hr_25, hr_25p⟩ := hr_25
      obtain ⟨ret_26, rfl, hg_ret_26⟩ := hr_25
      refine lv_pop hx hb dX11_closeDocument_40 rfl ?_
      refine lv_aload_n hx hb dX11_closeDocument_41 rfl (lv_at hl 2 rfl) ?_
      refine lv_aload_n hx hb dX11_closeDocument_42 rfl (lv_at hl 1 rfl) ?_
      refine lv_iconst (v := 0) hx hb dX11_closeDocument_43 (by decide) ?_
      have hsz_27 := hh_24.2.2.2.2.2.1
      have htt_27 := hh_24.2.2.2.2.2.2.1
      refine W.room (fun hrc_27 hrs_27 => ?_)
      refine va_callv (A0 := jA base) (H0 := s.heap) (va_runV (As := [.ref ret_4, .int 0]) (rest := []) ⟨hx, hb, hml, hown, hts⟩ (uX11_publish l dC dI ca base B hB hAp hB2 hB3 hB4 hB11 hB13 hB101 hB171 hB172 hB196 hB210 G_13 H_24 r0 ret_4 0 bo qc_13 qa_13 m_qa_13 ou LC LS) (cwV 2 hts (jgV (jWr_39 _ (List.mem_of_getElem? (i := 19) rfl)) (jWr_39 _ (List.mem_of_getElem? (i := 20) rfl)) (jWr_39 _ (List.mem_of_getElem? (i := 21) rfl)) (jWr_1 _ (List.mem_of_getElem? (i := 2) rfl)) (jWr_39 _ (List.mem_of_getElem? (i := 22) rfl))) rfl rfl rfl (by decide +kernel) ⟨by rw [← hR]; exact Nat.le_of_ble_eq_true rfl, by rw [← hR]; exact Nat.le_of_ble_eq_true rfl⟩) ⟨fun a U g mk q => by obtain ⟨q0, q1, q2, qK, q10, q11, q12, q13, q14, q15, q16, q17, q18, q19⟩ := q; exact ⟨q0, q1, q2, jG.calling g mk a qK, (va_K.moved (Vm.Alike.refl U.vm) q10), q11, q12, q13, q14, q15, q16, q17, q18, q19⟩, hh_24.recv (C := RX11) (T := TX11) (N := 19) hB13 rfl (by decide) hg_16 hK, fun U hU hW => ⟨rfl, hU, hh_24.2.1, hG.step hW hU hh_24.1, va_K.moved hW.alike hK2, hg_15, hg_16, (Or.inl rfl), hg_17, hgq_13_0, hg_18, (hh_24.2.2.1.sub (L1 := [(r0, 13, 4, .ref bo), (bo, 2, 1, .int qc_13), (bo, 2, 0, .ref qa_13), (r0, 13, 3, .ref ou)]) [3, 1, 2, 4] rfl), (hh_24.2.2.2.2.2.2.2.2.sub (L1 := [(jFy, jYb dC dI G_13)]) [2] rfl), (by omega), (by omega), ⟨(by first | omega | rfl | assumption | fail), (by first | omega | rfl | assumption | fail), (by first | omega | rfl | assumption | fail), (by first | omega | rfl | assumption | fail), (by first | assumption | fail | omega)⟩⟩⟩ rfl rfl hl.1 rfl (lv_room (Nat.le_of_ble_eq_true rfl)) dX11_closeDocument_44 ⟨by rw [hRc]; omega, by rw [hRs]; omega⟩) hh_24.1 (fun q _ h => h) (fun q h => h) (fun u_27 t_27 H_27 locs_27 ht_27 hvm_27 hr_28 hb_27 hz_27 hk_27 hS_27 => ?_)
      obtain ⟨qc_27, qa_27, m_qa_27, G_27⟩ := u_27
      rw [ht_27] at hb_27
      simp only at hb_27
      obtain ⟨⟨hb_271, hb_272, hb_273, hb_274, hb_275, hb_276⟩, hgq_27_0, hN_27, hbO_27, hbE_27⟩ := hb_27
      have hh_27 : jSt (dC, dI) B base G0 G_27 EX11_closeDocument s.heap (((m_qa_13 - n_pa) / 16) + ((m_qa_27 - m_qa_13) / 16)) ((2 * (m_qa_13 - n_pa)) + (2 * (m_qa_27 - m_qa_13))) [(bo, 2, 1, .int qc_27), (bo, 2, 0, .ref qa_27), (op, 1, 2, .int qz_24), (r0, 13, 4, .ref bo), (r0, 13, 3, .ref ou), (r0, 13, 7, .ref op)] [] [(jFl, jLs dC dI ca G_13 3 none)] H_27 locs_27 := (hh_24.callG hb_271 hb_272 hb_273 hb_274 hb_275 hS_27 rfl (L1 := [(op, 1, 2, .int qz_24), (r0, 13, 4, .ref bo), (r0, 13, 3, .ref ou), (r0, 13, 7, .ref op)]) [0, 3, 4, 5] rfl rfl (M1 := []) [] rfl rfl (I1 := [(jFl, jLs dC dI ca G_13 3 none)]) [0] rfl rfl).more hb_276
      have hNn_27 : (jNk [0, 1, 2, 3, 4, 5, 6, 7, 8, 9, 10, 11, 12, 13, 14, 15, 16]) G0 G_27 := (hNn_13).tr hN_27
      have hg_29 := hb_272 _ _ hg_15
      have hg_30 := hb_272 _ _ hg_16
      have hg_31 := hb_272 _ _ hg_17
      have hg_32 := hb_272 _ _ hg_18
      have hg_33 := hb_272 _ _ hg_19
      have hd_34 := jLs.grow (hh_27.iv 0 rfl) hb_272 hN_27 (by decide)
      have hh_35 := hh_27.sub (L1 := [(bo, 2, 1, .int qc_27), (bo, 2, 0, .ref qa_27), (op, 1, 2, .int qz_24), (r0, 13, 4, .ref bo), (r0, 13, 3, .ref ou), (r0, 13, 7, .ref op)]) [0, 1, 2, 3, 4, 5] rfl (M1 := []) [] rfl (I1 := []) [] rfl
      clear hh_27
      have hh_36 := hh_35.addI (jLs.ie hd_34)
      clear hh_35
      have hh_37 := hh_36.addIs hbE_27
      have hd_38 := jOl.trL (hh_24.iv 1 rfl) hh_24.2.2.2.2.1 hbO_27 (by simp)
      have hh_39 := hh_37.addI (jOl.ie (dC := dC) (dI := dI) (G0 := G0) (k := 2) (rs := [bo, ou]) (H0 := s.heap) (F := [(2, 0), (2, 1)]) (C := RX0) (T := TX0) (N := 2) rfl (by decide) hh_37.2.2.2.2.1 (hd_38))
      clear hh_37
      try simp only at hr_28
      obtain ⟨hr_28_0, hr_28_1, hr_28_2, hr_28_3, hr_28_4⟩ := hr_28
      have hh_40 := hh_39.wk (zc1 := (m_qa_27 - n_pa) / 16) (zs1 := 2 * (m_qa_27 - n_pa)) (by omega) (by omega)
      clear hh_39
      try clear hsz_27 htt_27 hrc_27 hrs_27
      try clear hb_274 hb_275
      have hsz_41 := hh_40.2.2.2.2.2.1
      have htt_41 := hh_40.2.2.2.2.2.2.1
      refine W.room (fun hrc_41 hrs_41 => ?_)
      refine W.widen (k := LC - s.heap.size) (n := LS - jTot s.heap) (by omega) (by omega) ?_
      rw [hQ]
      exact W.vret hx hb hr (fun t ht hW => ⟨⟨(qc_27, qa_27, m_qa_27, G_27), rfl, by (try dsimp only); exact ⟨(by first | omega | rfl | assumption | fail), (by first | omega | rfl | assumption | fail), (by first | omega | rfl | assumption | fail), (by first | omega | rfl | assumption | fail), (by first | assumption | fail | omega)⟩, ⟨hh_40.ra (by first | omega | (simp only; omega)) (by first | omega | (simp only; omega)) (M1 := [(bo, 2, 1, .int qc_27), (bo, 2, 0, .ref qa_27)]) [0, 1] rfl ht, hgq_27_0, hNn_27, by rw [ht]; exact hh_40.iv 0 rfl, by rw [ht]; exact hh_40.2.2.2.2.2.2.2.2.sub (L1 := [(jFy, jYb dC dI G_27), (jFl, jLs dC dI ca G_27 3 none)]) [1, 2] rfl⟩⟩, by rw [ht]; try exact hh_40.1.1, fun q h9 hq => by rw [ht]; try exact hh_40.1.2.1 q h9 hq⟩) hh_40.1.2.2 dX11_closeDocument_47
    · skip
      have c_10' : r_9.toInt < 0 := jb_ge_n (rfl) ((by decide)) c_10
      first | (have hr_9_1q := hr_9_1.resolve_left (by omega); clear hr_9_1) | (have hr_9_1q := hr_9_1.resolve_right (by omega); clear hr_9_1) | skip
      have hsz_42 := hh_8.2.2.2.2.2.1
      have htt_42 := hh_8.2.2.2.2.2.2.1
      refine W.room (fun hrc_42 hrs_42 => ?_)
      refine W.widen (k := LC - s.heap.size) (n := LS - jTot s.heap) (by omega) (by omega) ?_
      rw [hQ]
      exact W.vret hx hb hr (fun t ht hW => ⟨⟨(pc, pa, n_pa, G0), rfl, by (try dsimp only); exact ⟨(by first | omega | rfl | assumption | fail), (by first | omega | rfl | assumption | fail), (by first | omega | rfl | assumption | fail), (by first | omega | rfl | assumption | fail), (by first | assumption | fail | omega)⟩, ⟨hh_8.ra (by first | omega | (simp only; omega)) (by first | omega | (simp only; omega)) (M1 := [(bo, 2, 1, .int pc), (bo, 2, 0, .ref pa)]) [1, 2] rfl ht, hg_pa, jNk.rf, by rw [ht]; exact hh_8.iv 1 rfl, by rw [ht]; exact hh_8.2.2.2.2.2.2.2.2.sub (L1 := [(jFy, jYb dC dI G0), (jFl, jLs dC dI ca G0 3 none)]) [2, 0] rfl⟩⟩, by rw [ht]; try exact hh_8.1.1, fun q h9 hq => by rw [ht]; try exact hh_8.1.2.1 q h9 hq⟩) hh_8.1.2.2 dX11_closeDocument_19
set_option maxHeartbeats 4000000 in
set_option maxRecDepth 20000 in
theorem uX11_aimAtPlace (l : Launch) (dC : Nat → ClassId) (dI : Nat → Nat → Nat) (ca : Nat → ClassId) (base : Nat) (B : jF) (hB : jBok B) (hAp : jAp (dC, dI)) (hB1 : ∀ n G a H, B 1 n G a H ↔ jOb (dC, dI) 1 3 (F1 n G) a H) (hB3 : ∀ n G a H, B 3 n G a H ↔ jOb (dC, dI) 3 17 (F3 n G) a H) (hB6 : ∀ n G a H, B 6 n G a H ↔ jOb (dC, dI) 6 12 (F6 n G) a H) (hB10 : ∀ n G a H, B 10 n G a H ↔ jOb (dC, dI) 10 5 (F10 n G) a H) (hB13 : ∀ n G a H, B 13 n G a H ↔ jOb (dC, dI) 13 19 (F13 n G) a H) (hB101 : ∀ n G a H, B 101 n G a H ↔ jAr (dC, dI) (ca 1) (fun j z => True) n a H) (hB140 : ∀ n G a H, B 140 n G a H ↔ jAr (dC, dI) (ca 1) (fun j z => True) n a H) (hB141 : ∀ n G a H, B 141 n G a H ↔ jAr (dC, dI) (ca 1) (fun j z => True) n a H) (hB142 : ∀ n G a H, B 142 n G a H ↔ jAr (dC, dI) (ca 1) (fun j z => True) n a H) (hB143 : ∀ n G a H, B 143 n G a H ↔ jAr (dC, dI) (ca 1) (fun j z => True) n a H) (hB144 : ∀ n G a H, B 144 n G a H ↔ jAr (dC, dI) (ca 1) (fun j z => 0 ≤ z.toInt ∧ z.toInt ≤ 3000) n a H) (hB145 : ∀ n G a H, B 145 n G a H ↔ jAr (dC, dI) (ca 1) (fun j z => True) n a H) (hB146 : ∀ n G a H, B 146 n G a H ↔ jAr (dC, dI) (ca 1) (fun j z => True) n a H) (hB172 : ∀ n G a H, B 172 n G a H ↔ jAr (dC, dI) (ca 1) (fun j z => 0 ≤ z.toInt ∧ z.toInt ≤ 1500) n a H) (hB221 : ∀ n G a H, B 221 n G a H ↔ jAq (dC, dI) (ca 9) (jQn 3 0) n G a H) (G0 : jT) (H0 : Heap) (r0 : Nat) (r1 : Nat) : Met l yX11_aimAtPlace (jw yX11_aimAtPlace cX11_aimAtPlace 5 (some .boolean)) ({ frames := 7, cells := 0, slots := 0, locals := 214 }) (va_Pc [.ref r0, .ref r1] (fun U => U.heap = H0 ∧ jX B base G0 [] H0 ∧ jG dC dI ca base U ∧ jK7 dC dI ca base U ∧ G0 r0 = some (13, 0) ∧ G0 r1 = some (10, 0) ∧ jP (dC, dI) G0 H0 [] ∧ jIs (dC, dI) G0 H0 [(jFl, jLs dC dI ca G0 3 none)] ∧ True)) (va_Qi (S := Unit) (fun r u => (r = 0 ∨ r = 1) ∧ (True)) (fun u t => (jRt (dC, dI) B base G0 EX11_aimAtPlace H0 [] t.heap) ∧ jIs (dC, dI) G0 t.heap [(jFl, jLs dC dI ca G0 3 none)]) (jA base)) 0 0 (jA base) := by
  refine Met.ofW (cc := cX11_aimAtPlace) (maxL := 5) (ret := (some .boolean)) (by decide) rfl ?_
  intro p e s m args below meth c s₁ Bd hml hv
  obtain ⟨rfl, hH0, hX, hG, hK7, hg_r0, hg_r1, hP0, hI0, hp0⟩ := hv
  have hK := hG.1
  have hx := Bd.exec
  have hb := Bd.bytes
  have hr := Bd.returns
  have hts := atoms_spec (ws := (jw yX11_aimAtPlace cX11_aimAtPlace 5 (some .boolean))) Bd.pre
  have htw : ∀ w ∈ jWl, w.before _ s = true := fun w h => hts w (List.mem_cons_of_mem _ h)
  have hown : s.vm.findClass RX11 = some m.cls := findClass_of_methodNamed Bd.named
  have hlocks := Bd.notSynchronized
  obtain ⟨Q, hQ⟩ : ∃ Q, Q = MQ below (va_Qi (S := Unit) (fun r u => (r = 0 ∨ r = 1) ∧ (True)) (fun u t => (jRt (dC, dI) B base G0 EX11_aimAtPlace H0 [] t.heap) ∧ jIs (dC, dI) G0 t.heap [(jFl, jLs dC dI ca G0 3 none)]) (jA base)) ([.ref r0, .ref r1] : List Value).toArray s 0 0 (jA base) := ⟨_, rfl⟩
  rw [← hQ]
  have hl := lv_entry ([.ref r0, .ref r1]) (n := 5) (Nat.le_of_ble_eq_true rfl)
  rw [lg_entry_eq]
  generalize (lg_sl ([.ref r0, .ref r1]) ++ List.replicate (5 - (lg_sl ([.ref r0, .ref r1])).length) Slot.unset).toArray = ls at hl ⊢
  have hl : lv_has ls 5 [(0, .ref r0), (1, .ref r1)] := hl
  generalize hR : (headSpec (jw yX11_aimAtPlace cX11_aimAtPlace 5 (some .boolean)) ({ frames := 7, cells := 0, slots := 0, locals := 214 })).room = R
  subst hH0
  have hh : jSt (dC, dI) B base G0 G0 EX11_aimAtPlace s.heap 0 0 [] [] [(jFl, jLs dC dI ca G0 3 none)] s.heap [] := jSt.start hX hP0 jMc.nil hI0
  clear hX hP0
  have hkm1 : ((-1) : Int32).toInt = (-1) := by decide
  have hk0 : (0 : Int32).toInt = 0 := by decide
  have hk1 : (1 : Int32).toInt = 1 := by decide
  have hly_10_1 := htw (u_lay RX8 TX8 1) (jWc_wsX80 _ (u_in_lay (by decide)))
  have hly_10_2 := htw (u_lay RX8 TX8 2) (jWc_wsX80 _ (u_in_lay (by decide)))
  have hly_13_2 := htw (u_lay RX11 TX11 2) (jWc_wsX110 _ (u_in_lay (by decide)))
  have hlk_28 := (htw (.fieldLink RX11 28 "ProofServer" "json" "LProofServer$Json;") (jWr_1 _ (List.mem_of_getElem? (i := 23) rfl)))
  obtain ⟨str271, rstr271, hstr2710⟩ := hG.str (o := RX11) (k := 271) (tx := "params") (List.mem_of_getElem? (i := 852) (by decide +kernel))
  have hstr271 : jStr base str271 6 s s.heap := hstr2710
  obtain ⟨str430, rstr430, hstr4300⟩ := hG.str (o := RX11) (k := 430) (tx := "position") (List.mem_of_getElem? (i := 912) (by decide +kernel))
  have hstr430 : jStr base str430 8 s s.heap := hstr4300
  have hlk_432 := (htw (.fieldLink RX11 432 "ProofServer$Request" "about" "LProofServer$Document;") (jWr_27 _ (List.mem_of_getElem? (i := 14) rfl)))
  have hlk_438 := (htw (.fieldLink RX11 438 "ProofServer$Request" "needed" "I") (jWr_27 _ (List.mem_of_getElem? (i := 15) rfl)))
  refine lv_aload_n hx hb dX11_aimAtPlace_0 rfl (lv_at hl 0 rfl) ?_
  refine j_callx (A0 := jA base) (H0 := s.heap) (va_runV (As := []) (rest := []) ⟨hx, hb, hml, hown, hts⟩ (uX11_addressed l dC dI ca base B hB hAp hB1 hB3 hB6 hB13 hB101 hB140 hB141 hB142 hB143 hB144 hB145 hB146 hB221 G0 s.heap r0) (cwV 0 hts (jgV (jWr_27 _ (List.mem_of_getElem? (i := 16) rfl)) (jWr_27 _ (List.mem_of_getElem? (i := 17) rfl)) (jWr_27 _ (List.mem_of_getElem? (i := 18) rfl)) (jWr_1 _ (List.mem_of_getElem? (i := 2) rfl)) (jWr_27 _ (List.mem_of_getElem? (i := 19) rfl))) rfl rfl rfl (by decide +kernel) ⟨by rw [← hR]; exact Nat.le_of_ble_eq_true rfl, by rw [← hR]; exact Nat.le_of_ble_eq_true rfl⟩) ⟨fun a U g mk q => by obtain ⟨q0, q1, q2, qK, q10, q11, q12, q13, q14⟩ := q; exact ⟨q0, q1, q2, jG.calling g mk a qK, (jK7.calling g mk a q10), q11, q12, q13, q14⟩, hh.recv (C := RX11) (T := TX11) (N := 19) hB13 rfl (by decide) hg_r0 hK, fun U hU hW => ⟨rfl, hU, hh.2.1, hG.step hW hU hh.1, (hK7.step hW hU hh.1), hg_r0, jP.nil, (hh.2.2.2.2.2.2.2.2.sub (L1 := [(jFl, jLs dC dI ca G0 3 none)]) [0] rfl), trivial⟩⟩ rfl rfl hl.1 rfl (lv_room (Nat.le_of_ble_eq_true rfl)) dX11_aimAtPlace_1 ⟨Nat.zero_le _, Nat.zero_le _⟩) hh.1 (fun q _ h => h) (fun q h => h) (fun r_2 u_1 t_1 H_1 locs_1 ht_1 hvm_1 hr_2 hb_1 hz_1 hk_1 hS_1 => ?_)
  rw [ht_1] at hb_1
  obtain ⟨hb_1, hbE_1⟩ := hb_1
  obtain ⟨hb_11, hb_12, hb_13, hb_14, hb_15⟩ := hb_1
  have hh_1 : jSt (dC, dI) B base G0 G0 EX11_aimAtPlace s.heap 0 0 [] [] [(jFl, jLs dC dI ca G0 3 none)] H_1 locs_1 := (((hh.call hb_11 hb_12 hb_13 hb_14 hS_1 rfl (L1 := []) [] rfl rfl (M1 := []) [] rfl rfl (I1 := []) [] rfl rfl).more hb_15)).addIs hbE_1
  clear hh ht_1 hvm_1 hz_1 hk_1 hS_1 hb_11 hb_12 hb_13 hb_14 hb_15
  clear  hbE_1
  rcases hr_2 with rfl | ⟨ret_3, rfl, hg_ret_3⟩
  · skip
    refine j7_nst_n (lv' := [(2, .null), (0, .ref r0), (1, .ref r1)]) hx hb dX11_aimAtPlace_4 rfl hl (by decide) rfl (fun ls hl => ?_)
    refine lv_aload_n hx hb dX11_aimAtPlace_5 rfl (lv_at hl 1 rfl) ?_
    obtain ⟨v_4, hv_4, hh_5⟩ := hh_1.pin (C := RX11) (T := TX11) (N := 19) hB13 rfl (by decide) hg_r0 (i := 2) (by decide) rfl
    clear hh_1
    obtain ⟨json_6, rfl, hg_json_6⟩ := hv_4
    refine j7_read hx hb hown hK (C := RX11) (T := TX11) (N := 19) rfl hly_13_2 hlk_28 (hh_5.at 0 rfl) dX11_aimAtPlace_6 ?_
    refine lv_aload_n hx hb dX11_aimAtPlace_9 rfl (lv_at hl 1 rfl) ?_
    refine j7_read hx hb hown hK (C := RX11) (T := TX11) (N := 19) rfl hly_13_2 hlk_28 (hh_5.at 0 rfl) dX11_aimAtPlace_10 ?_
    refine lv_iconst (v := 0) hx hb dX11_aimAtPlace_13 (by decide) ?_
    refine j_ldcSw hx hb hown rstr271 dX11_aimAtPlace_14 ?_
    refine va_calli (A0 := jA base) (H0 := s.heap) (va_runV (As := [.int 0, .ref str271]) (rest := [.ref json_6]) ⟨hx, hb, hml, hown, hts⟩ (uX4_member l dC dI ca base B hB hAp hB6 hB140 hB141 hB142 hB143 hB144 hB145 hB146 G0 H_1 json_6 0 str271 6) (cwV 2 hts (jgV (jWr_23 _ (List.mem_of_getElem? (i := 10) rfl)) (jWr_23 _ (List.mem_of_getElem? (i := 11) rfl)) (jWr_23 _ (List.mem_of_getElem? (i := 12) rfl)) (jWr_1 _ (List.mem_of_getElem? (i := 22) rfl)) (jWr_23 _ (List.mem_of_getElem? (i := 13) rfl))) rfl rfl rfl (by decide +kernel) ⟨by rw [← hR]; exact Nat.le_of_ble_eq_true rfl, by rw [← hR]; exact Nat.le_of_ble_eq_true rfl⟩) ⟨fun a U g mk q => by obtain ⟨q0, q1, q2, qK, q10, q11, q12, q13⟩ := q; exact ⟨q0, q1, q2, jG.calling g mk a qK, (q10.moved (Vm.Alike.refl U.vm)), q11, q12, q13⟩, hh_5.recv (C := RX4) (T := TX4) (N := 12) hB6 rfl (by decide) hg_json_6 hK, fun U hU hW => ⟨rfl, hU, hh_5.2.1, hG.step hW hU hh_5.1, (hstr271.moved hW.alike).kept hh_5.1.2.1, hg_json_6, jP.nil, by first | omega | rfl | assumption | decide | exact Or.inl rfl | exact Or.inr rfl | (simp only; omega)⟩⟩ rfl rfl hl.1 rfl (lv_room (Nat.le_of_ble_eq_true rfl)) dX11_aimAtPlace_17 ⟨Nat.zero_le _, Nat.zero_le _⟩) hh_5.1 (fun q _ h => h) (fun q h => h) (fun r_8 u_7 t_7 H_7 locs_7 ht_7 hvm_7 hr_8 hb_7 hz_7 hk_7 hS_7 => ?_)
    rw [ht_7] at hb_7
    obtain ⟨hb_71, hb_72, hb_73, hb_74, hb_75⟩ := hb_7
    have hh_7 : jSt (dC, dI) B base G0 G0 EX11_aimAtPlace s.heap 0 0 [(r0, 13, 2, .ref json_6)] [] [(jFl, jLs dC dI ca G0 3 none)] H_7 locs_7 := ((hh_5.call hb_71 hb_72 hb_73 hb_74 hS_7 rfl (L1 := [(r0, 13, 2, .ref json_6)]) [0] rfl rfl (M1 := []) [] rfl rfl (I1 := [(jFl, jLs dC dI ca G0 3 none)]) [0] rfl rfl).more hb_75)
    clear hh_5 ht_7 hvm_7 hz_7 hk_7 hS_7 hb_71 hb_72 hb_73 hb_74 hb_75
    obtain ⟨hr_8_0, hr_8_1⟩ := hr_8
    refine j_ldcSw hx hb hown rstr430 dX11_aimAtPlace_20 ?_
    refine va_calli (A0 := jA base) (H0 := s.heap) (va_runV (As := [.int r_8, .ref str430]) (rest := []) ⟨hx, hb, hml, hown, hts⟩ (uX4_member l dC dI ca base B hB hAp hB6 hB140 hB141 hB142 hB143 hB144 hB145 hB146 G0 H_7 json_6 r_8 str430 8) (cwV 2 hts (jgV (jWr_23 _ (List.mem_of_getElem? (i := 10) rfl)) (jWr_23 _ (List.mem_of_getElem? (i := 11) rfl)) (jWr_23 _ (List.mem_of_getElem? (i := 12) rfl)) (jWr_1 _ (List.mem_of_getElem? (i := 22) rfl)) (jWr_23 _ (List.mem_of_getElem? (i := 13) rfl))) rfl rfl rfl (by decide +kernel) ⟨by rw [← hR]; exact Nat.le_of_ble_eq_true rfl, by rw [← hR]; exact Nat.le_of_ble_eq_true rfl⟩) ⟨fun a U g mk q => by obtain ⟨q0, q1, q2, qK, q10, q11, q12, q13⟩ := q; exact ⟨q0, q1, q2, jG.calling g mk a qK, (q10.moved (Vm.Alike.refl U.vm)), q11, q12, q13⟩, hh_7.recv (C := RX4) (T := TX4) (N := 12) hB6 rfl (by decide) hg_json_6 hK, fun U hU hW => ⟨rfl, hU, hh_7.2.1, hG.step hW hU hh_7.1, (hstr430.moved hW.alike).kept hh_7.1.2.1, hg_json_6, jP.nil, by first | omega | rfl | assumption | decide | exact Or.inl rfl | exact Or.inr rfl | (simp only; omega)⟩⟩ rfl rfl hl.1 rfl (lv_room (Nat.le_of_ble_eq_true rfl)) dX11_aimAtPlace_23 ⟨Nat.zero_le _, Nat.zero_le _⟩) hh_7.1 (fun q _ h => h) (fun q h => h) (fun r_10 u_9 t_9 H_9 locs_9 ht_9 hvm_9 hr_10 hb_9 hz_9 hk_9 hS_9 => ?_)
    rw [ht_9] at hb_9
    obtain ⟨hb_91, hb_92, hb_93, hb_94, hb_95⟩ := hb_9
    have hh_9 : jSt (dC, dI) B base G0 G0 EX11_aimAtPlace s.heap 0 0 [(r0, 13, 2, .ref json_6)] [] [(jFl, jLs dC dI ca G0 3 none)] H_9 locs_9 := ((hh_7.call hb_91 hb_92 hb_93 hb_94 hS_9 rfl (L1 := [(r0, 13, 2, .ref json_6)]) [0] rfl rfl (M1 := []) [] rfl rfl (I1 := [(jFl, jLs dC dI ca G0 3 none)]) [0] rfl rfl).more hb_95)
    clear hh_7 ht_9 hvm_9 hz_9 hk_9 hS_9 hb_91 hb_92 hb_93 hb_94 hb_95
    obtain ⟨hr_10_0, hr_10_1⟩ := hr_10
    refine lv_istore_n (lv' := [(3, .int r_10), (2, .null), (0, .ref r0), (1, .ref r1)]) hx hb dX11_aimAtPlace_26 rfl hl (by decide) rfl (fun ls hl => ?_)
    refine j7_nld_n hx hb dX11_aimAtPlace_27 rfl (lv_at hl 1 rfl) ?_
    refine lv_ifnonnullN hx hb dX11_aimAtPlace_28 ?_
    refine lv_iconst (v := (-1)) hx hb dX11_aimAtPlace_31 (by decide) ?_
    refine lv_goto (tgt := 41) hx hb dX11_aimAtPlace_32 (by decide) ?_
    refine lv_istore (lv' := [(4, .int (-1)), (3, .int r_10), (2, .null), (0, .ref r0), (1, .ref r1)]) hx hb dX11_aimAtPlace_41 hl (by decide) rfl (fun ls hl => ?_)
    refine lv_iload hx hb dX11_aimAtPlace_43 (lv_at hl 0 rfl) ?_
    refine lv_if_ge (tgt := 50) hx hb dX11_aimAtPlace_45 (by decide) (fun c_11 => ?_) (fun c_11 => ?_)
    · skip
      exact absurd c_11 (by decide)
    · skip
      refine lv_iconst (v := 0) hx hb dX11_aimAtPlace_48 (by decide) ?_
      rw [hQ]
      exact W.zret (v := 0) hx hb hr (jb_nz (Or.inl rfl)) (fun t ht hW => ⟨⟨0, (), rfl, ⟨(Or.inl rfl), trivial⟩, ⟨hh_9.rt (M1 := []) [] rfl ht, by rw [ht]; exact hh_9.2.2.2.2.2.2.2.2.sub (L1 := [(jFl, jLs dC dI ca G0 3 none)]) [0] rfl⟩⟩, by rw [ht]; try exact hh_9.1.1, fun q h9 hq => by rw [ht]; try exact hh_9.1.2.1 q h9 hq⟩) hh_9.1.2.2 dX11_aimAtPlace_49
  · skip
    refine lv_astore_n (lv' := [(2, .ref ret_3), (0, .ref r0), (1, .ref r1)]) hx hb dX11_aimAtPlace_4 rfl hl (by decide) rfl (fun ls hl => ?_)
    refine lv_aload_n hx hb dX11_aimAtPlace_5 rfl (lv_at hl 1 rfl) ?_
    obtain ⟨v_12, hv_12, hh_13⟩ := hh_1.pin (C := RX11) (T := TX11) (N := 19) hB13 rfl (by decide) hg_r0 (i := 2) (by decide) rfl
    clear hh_1
    obtain ⟨json_14, rfl, hg_json_14⟩ := hv_12
    refine j7_read hx hb hown hK (C := RX11) (T := TX11) (N := 19) rfl hly_13_2 hlk_28 (hh_13.at 0 rfl) dX11_aimAtPlace_6 ?_
    refine lv_aload_n hx hb dX11_aimAtPlace_9 rfl (lv_at hl 1 rfl) ?_
    refine j7_read hx hb hown hK (C := RX11) (T := TX11) (N := 19) rfl hly_13_2 hlk_28 (hh_13.at 0 rfl) dX11_aimAtPlace_10 ?_
    refine lv_iconst (v := 0) hx hb dX11_aimAtPlace_13 (by decide) ?_
    refine j_ldcSw hx hb hown rstr271 dX11_aimAtPlace_14 ?_
    refine va_calli (A0 := jA base) (H0 := s.heap) (va_runV (As := [.int 0, .ref str271]) (rest := [.ref json_14]) ⟨hx, hb, hml, hown, hts⟩ (uX4_member l dC dI ca base B hB hAp hB6 hB140 hB141 hB142 hB143 hB144 hB145 hB146 G0 H_1 json_14 0 str271 6) (cwV 2 hts (jgV (jWr_23 _ (List.mem_of_getElem? (i := 10) rfl)) (jWr_23 _ (List.mem_of_getElem? (i := 11) rfl)) (jWr_23 _ (List.mem_of_getElem? (i := 12) rfl)) (jWr_1 _ (List.mem_of_getElem? (i := 22) rfl)) (jWr_23 _ (List.mem_of_getElem? (i := 13) rfl))) rfl rfl rfl (by decide +kernel) ⟨by rw [← hR]; exact Nat.le_of_ble_eq_true rfl, by rw [← hR]; exact Nat.le_of_ble_eq_true rfl⟩) ⟨fun a U g mk q => by obtain ⟨q0, q1, q2, qK, q10, q11, q12, q13⟩ := q; exact ⟨q0, q1, q2, jG.calling g mk a qK, (q10.moved (Vm.Alike.refl U.vm)), q11, q12, q13⟩, hh_13.recv (C := RX4) (T := TX4) (N := 12) hB6 rfl (by decide) hg_json_14 hK, fun U hU hW => ⟨rfl, hU, hh_13.2.1, hG.step hW hU hh_13.1, (hstr271.moved hW.alike).kept hh_13.1.2.1, hg_json_14, jP.nil, by first | omega | rfl | assumption | decide | exact Or.inl rfl | exact Or.inr rfl | (simp only; omega)⟩⟩ rfl rfl hl.1 rfl (lv_room (Nat.le_of_ble_eq_true rfl)) dX11_aimAtPlace_17 ⟨Nat.zero_le _, Nat.zero_le _⟩) hh_13.1 (fun q _ h => h) (fun q h => h) (fun r_16 u_15 t_15 H_15 locs_15 ht_15 hvm_15 hr_16 hb_15 hz_15 hk_15 hS_15 => ?_)
    rw [ht_15] at hb_15
    obtain ⟨hb_151, hb_152, hb_153, hb_154, hb_155⟩ := hb_15
    have hh_15 : jSt (dC, dI) B base G0 G0 EX11_aimAtPlace s.heap 0 0 [(r0, 13, 2, .ref json_14)] [] [(jFl, jLs dC dI ca G0 3 none)] H_15 locs_15 := ((hh_13.call hb_151 hb_152 hb_153 hb_154 hS_15 rfl (L1 := [(r0, 13, 2, .ref json_14)]) [0] rfl rfl (M1 := []) [] rfl rfl (I1 := [(jFl, jLs dC dI ca G0 3 none)]) [0] rfl rfl).more hb_155)
    clear hh_13 ht_15 hvm_15 hz_15 hk_15 hS_15 hb_151 hb_152 hb_153 hb_154 hb_155
    obtain ⟨hr_16_0, hr_16_1⟩ := hr_16
    refine j_ldcSw hx hb hown rstr430 dX11_aimAtPlace_20 ?_
    refine va_calli (A0 := jA base) (H0 := s.heap) (va_runV (As := [.int r_16, .ref str430]) (rest := []) ⟨hx, hb, hml, hown, hts⟩ (uX4_member l dC dI ca base B hB hAp hB6 hB140 hB141 hB142 hB143 hB144 hB145 hB146 G0 H_15 json_14 r_16 str430 8) (cwV 2 hts (jgV (jWr_23 _ (List.mem_of_getElem? (i := 10) rfl)) (jWr_23 _ (List.mem_of_getElem? (i := 11) rfl)) (jWr_23 _ (List.mem_of_getElem? (i := 12) rfl)) (jWr_1 _ (List.mem_of_getElem? (i := 22) rfl)) (jWr_23 _ (List.mem_of_getElem? (i := 13) rfl))) rfl rfl rfl (by decide +kernel) ⟨by rw [← hR]; exact Nat.le_of_ble_eq_true rfl, by rw [← hR]; exact Nat.le_of_ble_eq_true rfl⟩) ⟨fun a U g mk q => by obtain ⟨q0, q1, q2, qK, q10, q11, q12, q13⟩ := q; exact ⟨q0, q1, q2, jG.calling g mk a qK, (q10.moved (Vm.Alike.refl U.vm)), q11, q12, q13⟩, hh_15.recv (C := RX4) (T := TX4) (N := 12) hB6 rfl (by decide) hg_json_14 hK, fun U hU hW => ⟨rfl, hU, hh_15.2.1, hG.step hW hU hh_15.1, (hstr430.moved hW.alike).kept hh_15.1.2.1, hg_json_14, jP.nil, by first | omega | rfl | assumption | decide | exact Or.inl rfl | exact Or.inr rfl | (simp only; omega)⟩⟩ rfl rfl hl.1 rfl (lv_room (Nat.le_of_ble_eq_true rfl)) dX11_aimAtPlace_23 ⟨Nat.zero_le _, Nat.zero_le _⟩) hh_15.1 (fun q _ h => h) (fun q h => h) (fun r_18 u_17 t_17 H_17 locs_17 ht_17 hvm_17 hr_18 hb_17 hz_17 hk_17 hS_17 => ?_)
    rw [ht_17] at hb_17
    obtain ⟨hb_171, hb_172, hb_173, hb_174, hb_175⟩ := hb_17
    have hh_17 : jSt (dC, dI) B base G0 G0 EX11_aimAtPlace s.heap 0 0 [(r0, 13, 2, .ref json_14)] [] [(jFl, jLs dC dI ca G0 3 none)] H_17 locs_17 := ((hh_15.call hb_171 hb_172 hb_173 hb_174 hS_17 rfl (L1 := [(r0, 13, 2, .ref json_14)]) [0] rfl rfl (M1 := []) [] rfl rfl (I1 := [(jFl, jLs dC dI ca G0 3 none)]) [0] rfl rfl).more hb_175)
    clear hh_15 ht_17 hvm_17 hz_17 hk_17 hS_17 hb_171 hb_172 hb_173 hb_174 hb_175
    obtain ⟨hr_18_0, hr_18_1⟩ := hr_18
    refine lv_istore_n (lv' := [(3, .int r_18), (2, .ref ret_3), (0, .ref r0), (1, .ref r1)]) hx hb dX11_aimAtPlace_26 rfl hl (by decide) rfl (fun ls hl => ?_)
    refine lv_aload_n hx hb dX11_aimAtPlace_27 rfl (lv_at hl 1 rfl) ?_
    refine lv_ifnonnull (tgt := 35) hx hb dX11_aimAtPlace_28 (by decide) ?_
    refine lv_aload_n hx hb dX11_aimAtPlace_35 rfl (lv_at hl 2 rfl) ?_
    refine lv_iload_n hx hb dX11_aimAtPlace_36 rfl (lv_at hl 0 rfl) ?_
    refine lv_aload_n hx hb dX11_aimAtPlace_37 rfl (lv_at hl 1 rfl) ?_
    refine va_calli (A0 := jA base) (H0 := s.heap) (va_runV (As := [.int r_18, .ref ret_3]) (rest := []) ⟨hx, hb, hml, hown, hts⟩ (uX11_placeTold l dC dI ca base B hB hAp hB3 hB6 hB13 hB101 hB140 hB141 hB142 hB143 hB144 hB145 hB146 G0 H_17 r0 r_18 ret_3 0) (cwV 2 hts (jgV (jWr_28 _ (List.mem_of_getElem? (i := 20) rfl)) (jWr_28 _ (List.mem_of_getElem? (i := 21) rfl)) (jWr_28 _ (List.mem_of_getElem? (i := 22) rfl)) (jWr_1 _ (List.mem_of_getElem? (i := 2) rfl)) (jWr_28 _ (List.mem_of_getElem? (i := 23) rfl))) rfl rfl rfl (by decide +kernel) ⟨by rw [← hR]; exact Nat.le_of_ble_eq_true rfl, by rw [← hR]; exact Nat.le_of_ble_eq_true rfl⟩) ⟨fun a U g mk q => by obtain ⟨q0, q1, q2, qK, q10, q11, q12, q13⟩ := q; exact ⟨q0, q1, q2, jG.calling g mk a qK, q10, q11, q12, q13⟩, hh_17.recv (C := RX11) (T := TX11) (N := 19) hB13 rfl (by decide) hg_r0 hK, fun U hU hW => ⟨rfl, hU, hh_17.2.1, hG.step hW hU hh_17.1, hg_r0, hg_ret_3, jP.nil, trivial⟩⟩ rfl rfl hl.1 rfl (lv_room (Nat.le_of_ble_eq_true rfl)) dX11_aimAtPlace_38 ⟨Nat.zero_le _, Nat.zero_le _⟩) hh_17.1 (fun q _ h => h) (fun q h => h) (fun r_20 u_19 t_19 H_19 locs_19 ht_19 hvm_19 hr_20 hb_19 hz_19 hk_19 hS_19 => ?_)
    rw [ht_19] at hb_19
    obtain ⟨hb_191, hb_192, hb_193, hb_194, hb_195⟩ := hb_19
    have hh_19 : jSt (dC, dI) B base G0 G0 EX11_aimAtPlace s.heap 0 0 [(r0, 13, 2, .ref json_14)] [] [(jFl, jLs dC dI ca G0 3 none)] H_19 locs_19 := ((hh_17.call hb_191 hb_192 hb_193 hb_194 hS_19 rfl (L1 := [(r0, 13, 2, .ref json_14)]) [0] rfl rfl (M1 := []) [] rfl rfl (I1 := [(jFl, jLs dC dI ca G0 3 none)]) [0] rfl rfl).more hb_195)
    clear hh_17 ht_19 hvm_19 hz_19 hk_19 hS_19 hb_191 hb_192 hb_193 hb_194 hb_195
    refine lv_istore (lv' := [(4, .int r_20), (3, .int r_18), (2, .ref ret_3), (0, .ref r0), (1, .ref r1)]) hx hb dX11_aimAtPlace_41 hl (by decide) rfl (fun ls hl => ?_)
    refine lv_iload hx hb dX11_aimAtPlace_43 (lv_at hl 0 rfl) ?_
    refine lv_if_ge (tgt := 50) hx hb dX11_aimAtPlace_45 (by decide) (fun c_21 => ?_) (fun c_21 => ?_)
    · skip
      have c_21' : r_20.toInt ≥ 0 := jb_ge (rfl) ((by decide)) c_21
      refine lv_aload_n hx hb dX11_aimAtPlace_50 rfl (lv_at hl 4 rfl) ?_
      refine lv_aload_n hx hb dX11_aimAtPlace_51 rfl (lv_at hl 2 rfl) ?_
      refine j7_put hx hb hown hK hh_19 hB hAp hB10 (C := RX8) (T := TX8) (N := 5) rfl (by decide) hg_r1 (i := 1) (by decide) hly_10_1 rfl hlk_432 rfl (ty := (.object "ProofServer$Document")) (v := .ref ret_3) (by decide +kernel) rfl rfl (Or.inr ⟨_, rfl, hg_ret_3⟩) rfl (L1 := [(r0, 13, 2, .ref json_14)]) [0] rfl rfl rfl dX11_aimAtPlace_52 (fun H_22 locs_22 hh_22 => ?_)
      clear hh_19
      refine lv_aload_n hx hb dX11_aimAtPlace_55 rfl (lv_at hl 4 rfl) ?_
      refine lv_aload_n hx hb dX11_aimAtPlace_56 rfl (lv_at hl 2 rfl) ?_
      refine lv_iload hx hb dX11_aimAtPlace_57 (lv_at hl 0 rfl) ?_
      refine va_calli (A0 := jA base) (H0 := s.heap) (va_runV (As := [.int r_20]) (rest := [.ref r1]) ⟨hx, hb, hml, hown, hts⟩ (uX1_endedBy l dC dI ca base B hB hAp hB3 hB172 G0 H_22 ret_3 r_20) (cwV 1 hts (jgV (jWr_29 _ (List.mem_of_getElem? (i := 10) rfl)) (jWr_29 _ (List.mem_of_getElem? (i := 11) rfl)) (jWr_29 _ (List.mem_of_getElem? (i := 12) rfl)) (jWr_2 _ (List.mem_of_getElem? (i := 21) rfl)) (jWr_29 _ (List.mem_of_getElem? (i := 13) rfl))) rfl rfl rfl (by decide +kernel) ⟨by rw [← hR]; exact Nat.le_of_ble_eq_true rfl, by rw [← hR]; exact Nat.le_of_ble_eq_true rfl⟩) ⟨fun a U g mk q => by obtain ⟨q0, q1, q2, qK, q10, q11, q12⟩ := q; exact ⟨q0, q1, q2, jG.calling g mk a qK, q10, q11, q12⟩, hh_22.recv (C := RX1) (T := TX1) (N := 17) hB3 rfl (by decide) hg_ret_3 hK, fun U hU hW => ⟨rfl, hU, hh_22.2.1, hG.step hW hU hh_22.1, hg_ret_3, jP.nil, trivial⟩⟩ rfl rfl hl.1 rfl (lv_room (Nat.le_of_ble_eq_true rfl)) dX11_aimAtPlace_59 ⟨Nat.zero_le _, Nat.zero_le _⟩) hh_22.1 (fun q _ h => h) (fun q h => h) (fun r_24 u_23 t_23 H_23 locs_23 ht_23 hvm_23 hr_24 hb_23 hz_23 hk_23 hS_23 => ?_)
      rw [ht_23] at hb_23
      obtain ⟨hb_231, hb_232, hb_233, hb_234, hb_235⟩ := hb_23
      have hh_23 : jSt (dC, dI) B base G0 G0 EX11_aimAtPlace s.heap 0 0 [(r1, 10, 1, .ref ret_3), (r0, 13, 2, .ref json_14)] [] [(jFl, jLs dC dI ca G0 3 none)] H_23 locs_23 := ((hh_22.call hb_231 hb_232 hb_233 hb_234 hS_23 rfl (L1 := [(r1, 10, 1, .ref ret_3), (r0, 13, 2, .ref json_14)]) [0, 1] rfl rfl (M1 := []) [] rfl rfl (I1 := [(jFl, jLs dC dI ca G0 3 none)]) [0] rfl rfl).more hb_235)
      clear hh_22 ht_23 hvm_23 hz_23 hk_23 hS_23 hb_231 hb_232 hb_233 hb_234 hb_235
      obtain ⟨hr_24_0, hr_24_1⟩ := hr_24
      refine j7_put hx hb hown hK hh_23 hB hAp hB10 (C := RX8) (T := TX8) (N := 5) rfl (by decide) hg_r1 (i := 2) (by decide) hly_10_2 rfl hlk_438 rfl (ty := .int) (v := .int r_24) (by decide +kernel) rfl rfl (⟨_, rfl⟩) rfl (L1 := [(r1, 10, 1, .ref ret_3), (r0, 13, 2, .ref json_14)]) [0, 1] rfl rfl rfl dX11_aimAtPlace_62 (fun H_25 locs_25 hh_25 => ?_)
      clear hh_23
      refine lv_iconst (v := 1) hx hb dX11_aimAtPlace_65 (by decide) ?_
      rw [hQ]
      exact W.zret (v := 1) hx hb hr (jb_nz (Or.inr rfl)) (fun t ht hW => ⟨⟨1, (), rfl, ⟨(Or.inr rfl), trivial⟩, ⟨hh_25.rt (M1 := []) [] rfl ht, by rw [ht]; exact hh_25.2.2.2.2.2.2.2.2.sub (L1 := [(jFl, jLs dC dI ca G0 3 none)]) [0] rfl⟩⟩, by rw [ht]; try exact hh_25.1.1, fun q h9 hq => by rw [ht]; try exact hh_25.1.2.1 q h9 hq⟩) hh_25.1.2.2 dX11_aimAtPlace_66
    · skip
      have c_21' : r_20.toInt < 0 := jb_ge_n (rfl) ((by decide)) c_21
      refine lv_iconst (v := 0) hx hb dX11_aimAtPlace_48 (by decide) ?_
      rw [hQ]
      exact W.zret (v := 0) hx hb hr (jb_nz (Or.inl rfl)) (fun t ht hW => ⟨⟨0, (), rfl, ⟨(Or.inl rfl), trivial⟩, ⟨hh_19.rt (M1 := []) [] rfl ht, by rw [ht]; exact hh_19.2.2.2.2.2.2.2.2.sub (L1 := [(jFl, jLs dC dI ca G0 3 none)]) [0] rfl⟩⟩, by rw [ht]; try exact hh_19.1.1, fun q h9 hq => by rw [ht]; try exact hh_19.1.2.1 q h9 hq⟩) hh_19.1.2.2 dX11_aimAtPlace_49
