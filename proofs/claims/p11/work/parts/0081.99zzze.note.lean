section
theorem dX11_notification_0 : decode cX11_notification 0 = .ok (.aload_n 0, 1) := by decide +kernel
theorem dX11_notification_1 : decode cX11_notification 1 = .ok (.getfield 28, 3) := by decide +kernel
theorem dX11_notification_4 : decode cX11_notification 4 = .ok (.iconst 0, 1) := by decide +kernel
theorem dX11_notification_5 : decode cX11_notification 5 = .ok (.ldc_w 281, 3) := by decide +kernel
theorem dX11_notification_8 : decode cX11_notification 8 = .ok (.invokevirtual 260, 3) := by decide +kernel
theorem dX11_notification_11 : decode cX11_notification 11 = .ok (.istore_n 1, 1) := by decide +kernel
theorem dX11_notification_12 : decode cX11_notification 12 = .ok (.aload_n 0, 1) := by decide +kernel
theorem dX11_notification_13 : decode cX11_notification 13 = .ok (.getfield 28, 3) := by decide +kernel
theorem dX11_notification_16 : decode cX11_notification 16 = .ok (.iload_n 1, 1) := by decide +kernel
theorem dX11_notification_17 : decode cX11_notification 17 = .ok (.ldc_w 322, 3) := by decide +kernel
theorem dX11_notification_20 : decode cX11_notification 20 = .ok (.invokevirtual 277, 3) := by decide +kernel
theorem dX11_notification_23 : decode cX11_notification 23 = .ok (.ifCond .eq 14, 3) := by decide +kernel
theorem dX11_notification_26 : decode cX11_notification 26 = .ok (.aload_n 0, 1) := by decide +kernel
theorem dX11_notification_27 : decode cX11_notification 27 = .ok (.getfield 21, 3) := by decide +kernel
theorem dX11_notification_30 : decode cX11_notification 30 = .ok (.iconst 1, 1) := by decide +kernel
theorem dX11_notification_31 : decode cX11_notification 31 = .ok (.putfield 102, 3) := by decide +kernel
theorem dX11_notification_34 : decode cX11_notification 34 = .ok (.goto 93, 3) := by decide +kernel
theorem dX11_notification_37 : decode cX11_notification 37 = .ok (.aload_n 0, 1) := by decide +kernel
theorem dX11_notification_38 : decode cX11_notification 38 = .ok (.getfield 77, 3) := by decide +kernel
theorem dX11_notification_41 : decode cX11_notification 41 = .ok (.iconst 1, 1) := by decide +kernel
theorem dX11_notification_42 : decode cX11_notification 42 = .ok (.if_icmp .eq 4, 3) := by decide +kernel
theorem dX11_notification_45 : decode cX11_notification 45 = .ok (.return_, 1) := by decide +kernel
theorem dX11_notification_46 : decode cX11_notification 46 = .ok (.aload_n 0, 1) := by decide +kernel
theorem dX11_notification_47 : decode cX11_notification 47 = .ok (.getfield 28, 3) := by decide +kernel
theorem dX11_notification_50 : decode cX11_notification 50 = .ok (.iload_n 1, 1) := by decide +kernel
theorem dX11_notification_51 : decode cX11_notification 51 = .ok (.ldc_w 324, 3) := by decide +kernel
theorem dX11_notification_54 : decode cX11_notification 54 = .ok (.invokevirtual 277, 3) := by decide +kernel
theorem dX11_notification_57 : decode cX11_notification 57 = .ok (.ifCond .eq 10, 3) := by decide +kernel
theorem dX11_notification_60 : decode cX11_notification 60 = .ok (.aload_n 0, 1) := by decide +kernel
theorem dX11_notification_61 : decode cX11_notification 61 = .ok (.invokevirtual 326, 3) := by decide +kernel
theorem dX11_notification_64 : decode cX11_notification 64 = .ok (.goto 63, 3) := by decide +kernel
theorem dX11_notification_67 : decode cX11_notification 67 = .ok (.aload_n 0, 1) := by decide +kernel
theorem dX11_notification_68 : decode cX11_notification 68 = .ok (.getfield 28, 3) := by decide +kernel
theorem dX11_notification_71 : decode cX11_notification 71 = .ok (.iload_n 1, 1) := by decide +kernel
theorem dX11_notification_72 : decode cX11_notification 72 = .ok (.ldc_w 329, 3) := by decide +kernel
theorem dX11_notification_75 : decode cX11_notification 75 = .ok (.invokevirtual 277, 3) := by decide +kernel
theorem dX11_notification_78 : decode cX11_notification 78 = .ok (.ifCond .eq 10, 3) := by decide +kernel
theorem dX11_notification_81 : decode cX11_notification 81 = .ok (.aload_n 0, 1) := by decide +kernel
theorem dX11_notification_82 : decode cX11_notification 82 = .ok (.invokevirtual 331, 3) := by decide +kernel
theorem dX11_notification_85 : decode cX11_notification 85 = .ok (.goto 42, 3) := by decide +kernel
theorem dX11_notification_88 : decode cX11_notification 88 = .ok (.aload_n 0, 1) := by decide +kernel
theorem dX11_notification_89 : decode cX11_notification 89 = .ok (.getfield 28, 3) := by decide +kernel
theorem dX11_notification_92 : decode cX11_notification 92 = .ok (.iload_n 1, 1) := by decide +kernel
theorem dX11_notification_93 : decode cX11_notification 93 = .ok (.ldc_w 334, 3) := by decide +kernel
theorem dX11_notification_96 : decode cX11_notification 96 = .ok (.invokevirtual 277, 3) := by decide +kernel
theorem dX11_notification_99 : decode cX11_notification 99 = .ok (.ifCond .eq 10, 3) := by decide +kernel
theorem dX11_notification_102 : decode cX11_notification 102 = .ok (.aload_n 0, 1) := by decide +kernel
theorem dX11_notification_103 : decode cX11_notification 103 = .ok (.invokevirtual 336, 3) := by decide +kernel
theorem dX11_notification_106 : decode cX11_notification 106 = .ok (.goto 21, 3) := by decide +kernel
theorem dX11_notification_109 : decode cX11_notification 109 = .ok (.aload_n 0, 1) := by decide +kernel
theorem dX11_notification_110 : decode cX11_notification 110 = .ok (.getfield 28, 3) := by decide +kernel
theorem dX11_notification_113 : decode cX11_notification 113 = .ok (.iload_n 1, 1) := by decide +kernel
theorem dX11_notification_114 : decode cX11_notification 114 = .ok (.ldc_w 339, 3) := by decide +kernel
theorem dX11_notification_117 : decode cX11_notification 117 = .ok (.invokevirtual 277, 3) := by decide +kernel
theorem dX11_notification_120 : decode cX11_notification 120 = .ok (.ifCond .eq 7, 3) := by decide +kernel
theorem dX11_notification_123 : decode cX11_notification 123 = .ok (.aload_n 0, 1) := by decide +kernel
theorem dX11_notification_124 : decode cX11_notification 124 = .ok (.invokevirtual 341, 3) := by decide +kernel
theorem dX11_notification_127 : decode cX11_notification 127 = .ok (.return_, 1) := by decide +kernel
def EX11_notification : List (Nat × Nat) := [(1, 0), (1, 1), (1, 2), (2, 0), (2, 1), (3, 0), (3, 1), (3, 3), (3, 4), (3, 10), (3, 11), (3, 12), (3, 13), (3, 14), (3, 15), (3, 16), (4, 4), (8, 3), (12, 3), (13, 14), (101, 0), (102, 0), (132, 0), (133, 0), (171, 0), (172, 0), (196, 0), (212, 0), (221, 0), (222, 0), (223, 0), (293, 0)]
set_option maxHeartbeats 4000000 in
set_option maxRecDepth 20000 in
theorem uX11_notification (l : Launch) (dC : Nat → ClassId) (dI : Nat → Nat → Nat) (ca : Nat → ClassId) (base : Nat) (B : jF) (hB : jBok B) (hAp : jAp (dC, dI)) (hB1 : ∀ n G a H, B 1 n G a H ↔ jOb (dC, dI) 1 3 (F1 n G) a H) (hB2 : ∀ n G a H, B 2 n G a H ↔ jOb (dC, dI) 2 2 (F2 n G) a H) (hB3 : ∀ n G a H, B 3 n G a H ↔ jOb (dC, dI) 3 17 (F3 n G) a H) (hB4 : ∀ n G a H, B 4 n G a H ↔ jOb (dC, dI) 4 12 (F4 n G) a H) (hB6 : ∀ n G a H, B 6 n G a H ↔ jOb (dC, dI) 6 12 (F6 n G) a H) (hB7 : ∀ n G a H, B 7 n G a H ↔ jOb (dC, dI) 7 11 (F7 n G) a H) (hB8 : ∀ n G a H, B 8 n G a H ↔ jOb (dC, dI) 8 4 (F8 n G) a H) (hB10 : ∀ n G a H, B 10 n G a H ↔ jOb (dC, dI) 10 5 (F10 n G) a H) (hB11 : ∀ n G a H, B 11 n G a H ↔ jOb (dC, dI) 11 9 (F11 n G) a H) (hB12 : ∀ n G a H, B 12 n G a H ↔ jOb (dC, dI) 12 11 (F12b n G) a H) (hB13 : ∀ n G a H, B 13 n G a H ↔ jOb (dC, dI) 13 19 (F13 n G) a H) (hB101 : ∀ n G a H, B 101 n G a H ↔ jAr (dC, dI) (ca 1) (fun j z => True) n a H) (hB102 : ∀ n G a H, B 102 n G a H ↔ jAl (dC, dI) (ca 2) n a H) (hB132 : ∀ n G a H, B 132 n G a H ↔ jAr (dC, dI) (ca 1) (fun j z => 0 ≤ z.toInt ∧ z.toInt ≤ 10) n a H) (hB133 : ∀ n G a H, B 133 n G a H ↔ jAr (dC, dI) (ca 1) (fun j z => 0 ≤ z.toInt ∧ z.toInt ≤ 8192) n a H) (hB140 : ∀ n G a H, B 140 n G a H ↔ jAr (dC, dI) (ca 1) (fun j z => True) n a H) (hB141 : ∀ n G a H, B 141 n G a H ↔ jAr (dC, dI) (ca 1) (fun j z => True) n a H) (hB142 : ∀ n G a H, B 142 n G a H ↔ jAr (dC, dI) (ca 1) (fun j z => True) n a H) (hB143 : ∀ n G a H, B 143 n G a H ↔ jAr (dC, dI) (ca 1) (fun j z => True) n a H) (hB144 : ∀ n G a H, B 144 n G a H ↔ jAr (dC, dI) (ca 1) (fun j z => 0 ≤ z.toInt ∧ z.toInt ≤ 3000) n a H) (hB145 : ∀ n G a H, B 145 n G a H ↔ jAr (dC, dI) (ca 1) (fun j z => True) n a H) (hB146 : ∀ n G a H, B 146 n G a H ↔ jAr (dC, dI) (ca 1) (fun j z => True) n a H) (hB171 : ∀ n G a H, B 171 n G a H ↔ jAr (dC, dI) (ca 1) (fun j z => 0 ≤ z.toInt ∧ z.toInt ≤ 1500) n a H) (hB172 : ∀ n G a H, B 172 n G a H ↔ jAr (dC, dI) (ca 1) (fun j z => 0 ≤ z.toInt ∧ z.toInt ≤ 1500) n a H) (hB196 : ∀ n G a H, B 196 n G a H ↔ jAr (dC, dI) (ca 0) (fun j z => jBf j z) n a H) (hB210 : ∀ n G a H, B 210 n G a H ↔ jAq (dC, dI) (ca 6) (jQn 11 0) n G a H) (hB212 : ∀ n G a H, B 212 n G a H ↔ jAq (dC, dI) (ca 5) (jQn 3 0) n G a H) (hB221 : ∀ n G a H, B 221 n G a H ↔ jAq (dC, dI) (ca 9) (jQn 3 0) n G a H) (hB222 : ∀ n G a H, B 222 n G a H ↔ jAq (dC, dI) (ca 9) (jQn 10 0) n G a H) (hB293 : ∀ n G a H, B 293 n G a H ↔ jAr (dC, dI) (ca 1) (fun j z => -1 ≤ z.toInt ∧ z.toInt ≤ 8191) n a H) (G0 : jT) (H0 : Heap) (r0 : Nat) (bo : Nat) (pc : Int32) (pa : Nat) (n_pa : Nat) (ou : Nat) (js : Nat) (pv : Int32) (pu : Int32) (wk : Nat) (wi : Nat) (wz : Nat) (jkf : Nat) (jks : Nat) (fm : Nat) (fl : Int32) (op : Nat) (sz : Int32) (ph : Nat) (fk : Nat → Int32) (fi : Nat → Int32) (fz : Nat → Int32) (fa : Nat → Int32) (fs : Nat → Int32) (LC LS : Nat) : Met l yX11_notification (jw yX11_notification cX11_notification 2 none) ({ frames := 9, cells := LC - H0.size, slots := LS - jTot H0, locals := 265 }) (va_Pc [.ref r0] (fun U => U.heap = H0 ∧ jX B base G0 [] H0 ∧ jG dC dI ca base U ∧ jK2 dC dI ca U ∧ jK5 dC dI ca U ∧ jK6 U ∧ jK7 dC dI ca base U ∧ G0 r0 = some (13, 0) ∧ G0 bo = some (2, 0) ∧ G0 pa = some (196, n_pa) ∧ G0 ou = some (2, 20000) ∧ G0 js = some (6, 0) ∧ G0 wk = some (140, 1502) ∧ G0 wi = some (141, 1502) ∧ G0 wz = some (142, 1502) ∧ G0 jkf = some (144, 1502) ∧ G0 jks = some (145, 1502) ∧ G0 fm = some (4, 0) ∧ G0 op = some (1, 1) ∧ jP (dC, dI) G0 H0 [(r0, 13, 4, .ref bo), (bo, 2, 1, .int pc), (bo, 2, 0, .ref pa), (r0, 13, 3, .ref ou), (r0, 13, 2, .ref js), (js, 6, 7, .int pv), (js, 6, 8, .int pu), (js, 6, 0, .ref wk), (js, 6, 1, .ref wi), (js, 6, 2, .ref wz), (js, 6, 4, .ref jkf), (js, 6, 5, .ref jks), (r0, 13, 1, .ref fm), (fm, 4, 1, .int fl), (r0, 13, 7, .ref op), (op, 1, 2, .int sz)] ∧ jMc (dC, dI) G0 H0 [(wk, 140, 1502, ca 1, fk), (wi, 141, 1502, ca 1, fi), (wz, 142, 1502, ca 1, fz), (jkf, 144, 1502, ca 1, fa), (jks, 145, 1502, ca 1, fs)] ∧ jIs (dC, dI) G0 H0 [(jFy, jYb dC dI G0), (jFl, jLs dC dI ca G0 3 none), (jFdo, jDcc dC dI ca G0 none ph)] ∧ H0.size + (1048576 - n_pa) / 16 + 1 + (ph + 200 * fl.toInt.toNat) / 16 ≤ LC ∧ jTot H0 + 2 * (1048576 - n_pa) + ph + 200 * fl.toInt.toNat ≤ LS ∧ 0 ≤ pc.toInt ∧ pc.toInt ≤ n_pa ∧ 16 ≤ n_pa ∧ n_pa ≤ 1048576 ∧ jPw n_pa ∧ 0 ≤ pv.toInt ∧ pv.toInt ≤ 1502 ∧ 0 ≤ pu.toInt ∧ pu.toInt ≤ 3000 ∧ jJq fk fi fz pv.toInt ∧ jJu fk fz pv.toInt pu.toInt ∧ jMh (fk, fi, fz, fa, fs) pv.toInt pu.toInt fl.toInt ∧ 0 ≤ fl.toInt ∧ 0 ≤ sz.toInt ∧ sz.toInt ≤ 40)) (va_Qv (S := Int32 × Nat × Nat × Nat × jT) (fun u => 0 ≤ u.1.toInt ∧ u.1.toInt ≤ u.2.2.1 ∧ n_pa ≤ u.2.2.1 ∧ u.2.2.1 ≤ 1048576 ∧ jPw u.2.2.1 ∧ u.2.2.2.1 ≤ ph + 200 * fl.toInt) (fun u t => jRa (dC, dI) B base G0 u.2.2.2.2 EX11_notification H0 ((u.2.2.1 - n_pa) / 16 + (ph + 200 * fl.toInt.toNat - u.2.2.2.1) / 16) (2 * (u.2.2.1 - n_pa) + (ph + 200 * fl.toInt.toNat - u.2.2.2.1)) [(bo, 2, 1, .int u.1), (bo, 2, 0, .ref u.2.1)] t.heap ∧ u.2.2.2.2 u.2.1 = some (196, u.2.2.1) ∧ (jNk [0, 1, 4, 5, 6, 7, 8, 9, 11, 12, 13, 14, 15, 16]) G0 u.2.2.2.2 ∧ jOl (dC, dI) G0 2 [bo, ou] H0 t.heap ∧ jIs (dC, dI) u.2.2.2.2 t.heap [(jFy, jYb dC dI u.2.2.2.2), (jFl, jLs dC dI ca u.2.2.2.2 3 none), (jFdo, jDcc dC dI ca u.2.2.2.2 none (u.2.2.2.1))]) (jA base)) (LC - H0.size) (LS - jTot H0) (jA base) := by
  refine Met.ofW (cc := cX11_notification) (maxL := 2) (ret := none) (by decide) rfl ?_
  intro p e s m args below meth c s₁ Bd hml hv
  obtain ⟨rfl, hH0, hX, hG, hK2, hK5, hK6, hK7, hg_r0, hg_bo, hg_pa, hg_ou, hg_js, hg_wk, hg_wi, hg_wz, hg_jkf, hg_jks, hg_fm, hg_op, hP0, hM0, hI0, hLC0, hLS0, hp0, hp1, hp2, hp3, hp4, hp5, hp6, hp7, hp8, hp9, hp10, hp11, hp12, hp13, hp14⟩ := hv
  have hK := hG.1
  have hx := Bd.exec
  have hb := Bd.bytes
  have hr := Bd.returns
  have hts := atoms_spec (ws := (jw yX11_notification cX11_notification 2 none)) Bd.pre
  have htw : ∀ w ∈ jWl, w.before _ s = true := fun w h => hts w (List.mem_cons_of_mem _ h)
  have hown : s.vm.findClass RX11 = some m.cls := findClass_of_methodNamed Bd.named
  have hlocks := Bd.notSynchronized
  obtain ⟨Q, hQ⟩ : ∃ Q, Q = MQ below (va_Qv (S := Int32 × Nat × Nat × Nat × jT) (fun u => 0 ≤ u.1.toInt ∧ u.1.toInt ≤ u.2.2.1 ∧ n_pa ≤ u.2.2.1 ∧ u.2.2.1 ≤ 1048576 ∧ jPw u.2.2.1 ∧ u.2.2.2.1 ≤ ph + 200 * fl.toInt) (fun u t => jRa (dC, dI) B base G0 u.2.2.2.2 EX11_notification H0 ((u.2.2.1 - n_pa) / 16 + (ph + 200 * fl.toInt.toNat - u.2.2.2.1) / 16) (2 * (u.2.2.1 - n_pa) + (ph + 200 * fl.toInt.toNat - u.2.2.2.1)) [(bo, 2, 1, .int u.1), (bo, 2, 0, .ref u.2.1)] t.heap ∧ u.2.2.2.2 u.2.1 = some (196, u.2.2.1) ∧ (jNk [0, 1, 4, 5, 6, 7, 8, 9, 11, 12, 13, 14, 15, 16]) G0 u.2.2.2.2 ∧ jOl (dC, dI) G0 2 [bo, ou] H0 t.heap ∧ jIs (dC, dI) u.2.2.2.2 t.heap [(jFy, jYb dC dI u.2.2.2.2), (jFl, jLs dC dI ca u.2.2.2.2 3 none), (jFdo, jDcc dC dI ca u.2.2.2.2 none (u.2.2.2.1))]) (jA base)) ([.ref r0] : List Value).toArray s (LC - H0.size) (LS - jTot H0) (jA base) := ⟨_, rfl⟩
  rw [← hQ]
  have hl := lv_entry ([.ref r0]) (n := 2) (Nat.le_of_ble_eq_true rfl)
  rw [lg_entry_eq]
  generalize (lg_sl ([.ref r0]) ++ List.replicate (2 - (lg_sl ([.ref r0])).length) Slot.unset).toArray = ls at hl ⊢
  have hl : lv_has ls 2 [(0, .ref r0)] := hl
  generalize hR : (headSpec (jw yX11_notification cX11_notification 2 none) ({ frames := 9, cells := LC - H0.size, slots := LS - jTot H0, locals := 265 })).room = R
  subst hH0
  have hh : jSt (dC, dI) B base G0 G0 EX11_notification s.heap 0 0 [(r0, 13, 4, .ref bo), (bo, 2, 1, .int pc), (bo, 2, 0, .ref pa), (r0, 13, 3, .ref ou), (r0, 13, 2, .ref js), (js, 6, 7, .int pv), (js, 6, 8, .int pu), (js, 6, 0, .ref wk), (js, 6, 1, .ref wi), (js, 6, 2, .ref wz), (js, 6, 4, .ref jkf), (js, 6, 5, .ref jks), (r0, 13, 1, .ref fm), (fm, 4, 1, .int fl), (r0, 13, 7, .ref op), (op, 1, 2, .int sz)] [(wk, 140, 1502, ca 1, fk), (wi, 141, 1502, ca 1, fi), (wz, 142, 1502, ca 1, fz), (jkf, 144, 1502, ca 1, fa), (jks, 145, 1502, ca 1, fs)] [(jFy, jYb dC dI G0), (jFl, jLs dC dI ca G0 3 none), (jFdo, jDcc dC dI ca G0 none ph)] s.heap [] := jSt.start hX hP0 hM0 hI0
  clear hX hP0
  have hk0 : (0 : Int32).toInt = 0 := by decide
  have hk1 : (1 : Int32).toInt = 1 := by decide
  have hly_4_4 := htw (u_lay RX2 TX2 4) (jWc_wsX20 _ (u_in_lay (by decide)))
  have hly_13_1 := htw (u_lay RX11 TX11 1) (jWc_wsX110 _ (u_in_lay (by decide)))
  have hly_13_2 := htw (u_lay RX11 TX11 2) (jWc_wsX110 _ (u_in_lay (by decide)))
  have hly_13_11 := htw (u_lay RX11 TX11 11) (jWc_wsX110 _ (u_in_lay (by decide)))
  have hlk_28 := (htw (.fieldLink RX11 28 "ProofServer" "json" "LProofServer$Json;") (jWr_1 _ (List.mem_of_getElem? (i := 23) rfl)))
  obtain ⟨str281, rstr281, hstr2810⟩ := hG.str (o := RX11) (k := 281) (tx := "method") (List.mem_of_getElem? (i := 859) (by decide +kernel))
  have hstr281 : jStr base str281 6 s s.heap := hstr2810
  obtain ⟨str322, rstr322, hstr3220⟩ := hG.str (o := RX11) (k := 322) (tx := "exit") (List.mem_of_getElem? (i := 1095) (by decide +kernel))
  have hstr322 : jStr base str322 4 s s.heap := hstr3220
  have hlk_21 := (htw (.fieldLink RX11 21 "ProofServer" "frames" "LProofServer$Frames;") (jWr_1 _ (List.mem_of_getElem? (i := 19) rfl)))
  have hlk_102 := (htw (.fieldLink RX11 102 "ProofServer$Frames" "broken" "Z") (jWr_17 _ (List.mem_of_getElem? (i := 8) rfl)))
  have hlk_77 := (htw (.fieldLink RX11 77 "ProofServer" "phase" "I") (jWr_2 _ (List.mem_of_getElem? (i := 19) rfl)))
  obtain ⟨str324, rstr324, hstr3240⟩ := hG.str (o := RX11) (k := 324) (tx := "textDocument/didOpen") (List.mem_of_getElem? (i := 1096) (by decide +kernel))
  have hstr324 : jStr base str324 20 s s.heap := hstr3240
  obtain ⟨str329, rstr329, hstr3290⟩ := hG.str (o := RX11) (k := 329) (tx := "textDocument/didChange") (List.mem_of_getElem? (i := 1251) (by decide +kernel))
  have hstr329 : jStr base str329 22 s s.heap := hstr3290
  obtain ⟨str334, rstr334, hstr3340⟩ := hG.str (o := RX11) (k := 334) (tx := "textDocument/didClose") (List.mem_of_getElem? (i := 1307) (by decide +kernel))
  have hstr334 : jStr base str334 21 s s.heap := hstr3340
  obtain ⟨str339, rstr339, hstr3390⟩ := hG.str (o := RX11) (k := 339) (tx := "$/cancelRequest") (List.mem_of_getElem? (i := 1316) (by decide +kernel))
  have hstr339 : jStr base str339 15 s s.heap := hstr3390
  have hbs : base ≤ s.heap.size := Nat.le_of_lt (Nat.lt_of_le_of_lt (hh.ab hg_r0).1 (hh.ab hg_r0).2)
  have hRc : R.cells = LC - s.heap.size := by rw [← hR]; rfl
  have hRs : R.slots = LS - jTot s.heap := by rw [← hR]; rfl
  have hh_1 := hh.addI (jOl.ie (dC := dC) (dI := dI) (G0 := G0) (k := 2) (rs := [bo, ou]) (H0 := s.heap) (F := [(2, 0), (2, 1)]) (C := RX0) (T := TX0) (N := 2) rfl (by decide) hh.2.2.2.2.1 (jOl.rf))
  clear hh
  refine lv_aload_n hx hb dX11_notification_0 rfl (lv_at hl 0 rfl) ?_
  refine j7_read hx hb hown hK (C := RX11) (T := TX11) (N := 19) rfl hly_13_2 hlk_28 (hh_1.at 4 rfl) dX11_notification_1 ?_
  refine lv_iconst (v := 0) hx hb dX11_notification_4 (by decide) ?_
  refine j_ldcSw hx hb hown rstr281 dX11_notification_5 ?_
  have hsz_2 := hh_1.2.2.2.2.2.1
  have htt_2 := hh_1.2.2.2.2.2.2.1
  refine W.room (fun hrc_2 hrs_2 => ?_)
  refine va_calli (A0 := jA base) (H0 := s.heap) (va_runV (As := [.int 0, .ref str281]) (rest := []) ⟨hx, hb, hml, hown, hts⟩ (uX4_memberQ l dC dI ca base B hB hAp hB6 hB140 hB141 hB142 hB143 hB144 hB145 hB146 G0 s.heap js 0 str281 6 pv wk wi wz jks fk fi fz fs) (cwV 2 hts (jgV (jWr_23 _ (List.mem_of_getElem? (i := 10) rfl)) (jWr_23 _ (List.mem_of_getElem? (i := 11) rfl)) (jWr_23 _ (List.mem_of_getElem? (i := 12) rfl)) (jWr_1 _ (List.mem_of_getElem? (i := 22) rfl)) (jWr_23 _ (List.mem_of_getElem? (i := 13) rfl))) rfl rfl rfl (by decide +kernel) ⟨by rw [← hR]; exact Nat.le_of_ble_eq_true rfl, by rw [← hR]; exact Nat.le_of_ble_eq_true rfl⟩) ⟨fun a U g mk q => by obtain ⟨q0, q1, q2, qK, q10, q11, q12, q13, q14, q15, q16, q17, q18⟩ := q; exact ⟨q0, q1, q2, jG.calling g mk a qK, (q10.moved (Vm.Alike.refl U.vm)), q11, q12, q13, q14, q15, q16, q17, q18⟩, hh_1.recv (C := RX4) (T := TX4) (N := 12) hB6 rfl (by decide) hg_js hK, fun U hU hW => ⟨rfl, hU, hh_1.2.1, hG.step hW hU hh_1.1, (hstr281.moved hW.alike).kept hh_1.1.2.1, hg_js, hg_wk, hg_wi, hg_wz, hg_jks, (hh_1.2.2.1.sub (L1 := [(js, 6, 7, .int pv), (js, 6, 0, .ref wk), (js, 6, 1, .ref wi), (js, 6, 2, .ref wz), (js, 6, 5, .ref jks)]) [5, 7, 8, 9, 11] rfl), (hh_1.2.2.2.2.2.2.2.1.sub (L1 := [(wk, 140, 1502, ca 1, fk), (wi, 141, 1502, ca 1, fi), (wz, 142, 1502, ca 1, fz), (jks, 145, 1502, ca 1, fs)]) [0, 1, 2, 4] rfl), ⟨(by first | (with_reducible assumption) | omega | rfl | fail), (by first | (with_reducible assumption) | omega | rfl | fail), (by first | (with_reducible assumption) | omega | rfl | fail)⟩⟩⟩ rfl rfl hl.1 rfl (lv_room (Nat.le_of_ble_eq_true rfl)) dX11_notification_8 ⟨by rw [hRc]; show _ + 0 ≤ _; omega, by rw [hRs]; show _ + 0 ≤ _; omega⟩) hh_1.1 (fun q _ h => h) (fun q h => h) (fun r_3 u_2 t_2 H_2 locs_2 ht_2 hvm_2 hr_3 hb_2 hz_2 hk_2 hS_2 => ?_)
  rw [ht_2] at hb_2
  obtain ⟨hb_2, hbF_2⟩ := hb_2
  obtain ⟨hb_21, hb_22, hb_23, hb_24, hb_25⟩ := hb_2
  have hh_2 : jSt (dC, dI) B base G0 G0 EX11_notification s.heap 0 0 [(r0, 13, 4, .ref bo), (bo, 2, 1, .int pc), (bo, 2, 0, .ref pa), (r0, 13, 3, .ref ou), (r0, 13, 2, .ref js), (js, 6, 7, .int pv), (js, 6, 8, .int pu), (js, 6, 0, .ref wk), (js, 6, 1, .ref wi), (js, 6, 2, .ref wz), (js, 6, 4, .ref jkf), (js, 6, 5, .ref jks), (r0, 13, 1, .ref fm), (fm, 4, 1, .int fl), (r0, 13, 7, .ref op), (op, 1, 2, .int sz)] [(wk, 140, 1502, ca 1, fk), (wi, 141, 1502, ca 1, fi), (wz, 142, 1502, ca 1, fz), (jkf, 144, 1502, ca 1, fa), (jks, 145, 1502, ca 1, fs)] [([(2, 0), (2, 1)], jOl (dC, dI) G0 2 [bo, ou] s.heap), (jFy, jYb dC dI G0), (jFl, jLs dC dI ca G0 3 none), (jFdo, jDcc dC dI ca G0 none ph)] H_2 locs_2 := ((hh_1.call hb_21 hb_22 hb_23 hb_24 hS_2 rfl (L1 := [(r0, 13, 4, .ref bo), (bo, 2, 1, .int pc), (bo, 2, 0, .ref pa), (r0, 13, 3, .ref ou), (r0, 13, 2, .ref js), (js, 6, 7, .int pv), (js, 6, 8, .int pu), (js, 6, 0, .ref wk), (js, 6, 1, .ref wi), (js, 6, 2, .ref wz), (js, 6, 4, .ref jkf), (js, 6, 5, .ref jks), (r0, 13, 1, .ref fm), (fm, 4, 1, .int fl), (r0, 13, 7, .ref op), (op, 1, 2, .int sz)]) [0, 1, 2, 3, 4, 5, 6, 7, 8, 9, 10, 11, 12, 13, 14, 15] rfl rfl (M1 := [(wk, 140, 1502, ca 1, fk), (wi, 141, 1502, ca 1, fi), (wz, 142, 1502, ca 1, fz), (jkf, 144, 1502, ca 1, fa), (jks, 145, 1502, ca 1, fs)]) [0, 1, 2, 3, 4] rfl rfl (I1 := [([(2, 0), (2, 1)], jOl (dC, dI) G0 2 [bo, ou] s.heap), (jFy, jYb dC dI G0), (jFl, jLs dC dI ca G0 3 none), (jFdo, jDcc dC dI ca G0 none ph)]) [0, 1, 2, 3] rfl rfl).more hb_25)
  clear hh_1 ht_2 hvm_2 hz_2 hk_2 hS_2 hb_21 hb_22 hb_23 hb_24 hb_25
  obtain ⟨hr_3_0, hr_3_1, hr_3_2⟩ := hr_3
  have hr_3_2o := jOr.of hr_3_2
  clear hr_3_2
  have hr_3_2 := hr_3_2o
  clear hr_3_2o
  refine lv_istore_n (lv' := [(1, .int r_3), (0, .ref r0)]) hx hb dX11_notification_11 rfl hl (by decide) rfl (fun ls hl => ?_)
  refine lv_aload_n hx hb dX11_notification_12 rfl (lv_at hl 1 rfl) ?_
  refine j7_read hx hb hown hK (C := RX11) (T := TX11) (N := 19) rfl hly_13_2 hlk_28 (hh_2.at 4 rfl) dX11_notification_13 ?_
  refine lv_iload_n hx hb dX11_notification_16 rfl (lv_at hl 0 rfl) ?_
  refine j_ldcSw hx hb hown rstr322 dX11_notification_17 ?_
  try clear hsz_2 htt_2 hrc_2 hrs_2
  have hsz_4 := hh_2.2.2.2.2.2.1
  have htt_4 := hh_2.2.2.2.2.2.2.1
  refine W.room (fun hrc_4 hrs_4 => ?_)
  refine va_calli (A0 := jA base) (H0 := s.heap) (va_runV (As := [.int r_3, .ref str322]) (rest := []) ⟨hx, hb, hml, hown, hts⟩ (uX4_isTextQ l dC dI ca base B hB hAp hB6 hB140 hB141 hB142 hB146 G0 H_2 js r_3 str322 4 pv wk wi wz fk fi fz) (cwV 2 hts (jgV (jWr_27 _ (List.mem_of_getElem? (i := 1) rfl)) (jWr_27 _ (List.mem_of_getElem? (i := 2) rfl)) (jWr_27 _ (List.mem_of_getElem? (i := 3) rfl)) (jWr_1 _ (List.mem_of_getElem? (i := 22) rfl)) (jWr_27 _ (List.mem_of_getElem? (i := 4) rfl))) rfl rfl rfl (by decide +kernel) ⟨by rw [← hR]; exact Nat.le_of_ble_eq_true rfl, by rw [← hR]; exact Nat.le_of_ble_eq_true rfl⟩) ⟨fun a U g mk q => by obtain ⟨q0, q1, q2, qK, q10, q11, q12, q13, q14, q15, q16, q17⟩ := q; exact ⟨q0, q1, q2, jG.calling g mk a qK, (q10.moved (Vm.Alike.refl U.vm)), q11, q12, q13, q14, q15, q16, q17⟩, hh_2.recv (C := RX4) (T := TX4) (N := 12) hB6 rfl (by decide) hg_js hK, fun U hU hW => ⟨rfl, hU, hh_2.2.1, hG.step hW hU hh_2.1, (hstr322.moved hW.alike).kept hh_2.1.2.1, hg_js, hg_wk, hg_wi, hg_wz, (hh_2.2.2.1.sub (L1 := [(js, 6, 7, .int pv), (js, 6, 0, .ref wk), (js, 6, 1, .ref wi), (js, 6, 2, .ref wz)]) [5, 7, 8, 9] rfl), (hh_2.2.2.2.2.2.2.2.1.sub (L1 := [(wk, 140, 1502, ca 1, fk), (wi, 141, 1502, ca 1, fi), (wz, 142, 1502, ca 1, fz)]) [0, 1, 2] rfl), ⟨(by first | (with_reducible assumption) | omega | rfl | fail), (by first | (with_reducible assumption) | omega | rfl | fail), (by first | (with_reducible assumption) | omega | rfl | fail), (by first | assumption | fail | omega)⟩⟩⟩ rfl rfl hl.1 rfl (lv_room (Nat.le_of_ble_eq_true rfl)) dX11_notification_20 ⟨by rw [hRc]; show _ + 0 ≤ _; omega, by rw [hRs]; show _ + 0 ≤ _; omega⟩) hh_2.1 (fun q _ h => h) (fun q h => h) (fun r_5 u_4 t_4 H_4 locs_4 ht_4 hvm_4 hr_5 hb_4 hz_4 hk_4 hS_4 => ?_)
  rw [ht_4] at hb_4
  obtain ⟨hb_4, hbF_4⟩ := hb_4
  obtain ⟨hb_41, hb_42, hb_43, hb_44, hb_45⟩ := hb_4
  have hh_4 : jSt (dC, dI) B base G0 G0 EX11_notification s.heap 0 0 [(r0, 13, 4, .ref bo), (bo, 2, 1, .int pc), (bo, 2, 0, .ref pa), (r0, 13, 3, .ref ou), (r0, 13, 2, .ref js), (js, 6, 7, .int pv), (js, 6, 8, .int pu), (js, 6, 0, .ref wk), (js, 6, 1, .ref wi), (js, 6, 2, .ref wz), (js, 6, 4, .ref jkf), (js, 6, 5, .ref jks), (r0, 13, 1, .ref fm), (fm, 4, 1, .int fl), (r0, 13, 7, .ref op), (op, 1, 2, .int sz)] [(wk, 140, 1502, ca 1, fk), (wi, 141, 1502, ca 1, fi), (wz, 142, 1502, ca 1, fz), (jkf, 144, 1502, ca 1, fa), (jks, 145, 1502, ca 1, fs)] [([(2, 0), (2, 1)], jOl (dC, dI) G0 2 [bo, ou] s.heap), (jFy, jYb dC dI G0), (jFl, jLs dC dI ca G0 3 none), (jFdo, jDcc dC dI ca G0 none ph)] H_4 locs_4 := ((hh_2.call hb_41 hb_42 hb_43 hb_44 hS_4 rfl (L1 := [(r0, 13, 4, .ref bo), (bo, 2, 1, .int pc), (bo, 2, 0, .ref pa), (r0, 13, 3, .ref ou), (r0, 13, 2, .ref js), (js, 6, 7, .int pv), (js, 6, 8, .int pu), (js, 6, 0, .ref wk), (js, 6, 1, .ref wi), (js, 6, 2, .ref wz), (js, 6, 4, .ref jkf), (js, 6, 5, .ref jks), (r0, 13, 1, .ref fm), (fm, 4, 1, .int fl), (r0, 13, 7, .ref op), (op, 1, 2, .int sz)]) [0, 1, 2, 3, 4, 5, 6, 7, 8, 9, 10, 11, 12, 13, 14, 15] rfl rfl (M1 := [(wk, 140, 1502, ca 1, fk), (wi, 141, 1502, ca 1, fi), (wz, 142, 1502, ca 1, fz), (jkf, 144, 1502, ca 1, fa), (jks, 145, 1502, ca 1, fs)]) [0, 1, 2, 3, 4] rfl rfl (I1 := [([(2, 0), (2, 1)], jOl (dC, dI) G0 2 [bo, ou] s.heap), (jFy, jYb dC dI G0), (jFl, jLs dC dI ca G0 3 none), (jFdo, jDcc dC dI ca G0 none ph)]) [0, 1, 2, 3] rfl rfl).more hb_45)
  clear hh_2 ht_4 hvm_4 hz_4 hk_4 hS_4 hb_41 hb_42 hb_43 hb_44 hb_45
  obtain ⟨hr_5b, hr_5p⟩ := hr_5
  have hr_5po := jOr.of hr_5p
  clear hr_5p
  have hr_5p := hr_5po
  clear hr_5po
  have hr_5' := jb_01 hr_5b
  refine lv_if_eq (tgt := 37) hx hb dX11_notification_23 (by decide) (fun c_6 => ?_) (fun c_6 => ?_)
  · skip
    have c_6' : r_5.toInt = 0 := jb_eq (rfl) ((by decide)) c_6
    first | (have hr_5pq := hr_5p.resolve_left (by omega); clear hr_5p) | (have hr_5pq := hr_5p.resolve_right (by omega); clear hr_5p) | try clear hr_5p
    first | (have hr_3_2q := hr_3_2.resolve_left (by omega); clear hr_3_2) | (have hr_3_2q := hr_3_2.resolve_right (by omega); clear hr_3_2) | skip
    refine lv_aload_n hx hb dX11_notification_37 rfl (lv_at hl 1 rfl) ?_
    obtain ⟨v_7, hv_7, hh_8⟩ := hh_4.pin (C := RX11) (T := TX11) (N := 19) hB13 rfl (by decide) hg_r0 (i := 11) (by decide) rfl
    clear hh_4
    obtain ⟨phase_9, rfl, hlophase_9, hhiphase_9⟩ := hv_7
    refine j7_read hx hb hown hK (C := RX11) (T := TX11) (N := 19) rfl hly_13_11 hlk_77 (hh_8.at 0 rfl) dX11_notification_38 ?_
    refine lv_iconst (v := 1) hx hb dX11_notification_41 (by decide) ?_
    refine lv_icmp_eq (tgt := 46) hx hb dX11_notification_42 (by decide) (fun c_10 => ?_) (fun c_10 => ?_)
    · skip
      have c_10' : phase_9.toInt = 1 := jb_eq (rfl) ((by decide)) c_10
      refine lv_aload_n hx hb dX11_notification_46 rfl (lv_at hl 1 rfl) ?_
      refine j7_read hx hb hown hK (C := RX11) (T := TX11) (N := 19) rfl hly_13_2 hlk_28 (hh_8.at 5 rfl) dX11_notification_47 ?_
      refine lv_iload_n hx hb dX11_notification_50 rfl (lv_at hl 0 rfl) ?_
      refine j_ldcSw hx hb hown rstr324 dX11_notification_51 ?_
      try clear hsz_4 htt_4 hrc_4 hrs_4
      have hsz_11 := hh_8.2.2.2.2.2.1
      have htt_11 := hh_8.2.2.2.2.2.2.1
      refine W.room (fun hrc_11 hrs_11 => ?_)
      refine va_calli (A0 := jA base) (H0 := s.heap) (va_runV (As := [.int r_3, .ref str324]) (rest := []) ⟨hx, hb, hml, hown, hts⟩ (uX4_isTextQ l dC dI ca base B hB hAp hB6 hB140 hB141 hB142 hB146 G0 H_4 js r_3 str324 20 pv wk wi wz fk fi fz) (cwV 2 hts (jgV (jWr_27 _ (List.mem_of_getElem? (i := 1) rfl)) (jWr_27 _ (List.mem_of_getElem? (i := 2) rfl)) (jWr_27 _ (List.mem_of_getElem? (i := 3) rfl)) (jWr_1 _ (List.mem_of_getElem? (i := 22) rfl)) (jWr_27 _ (List.mem_of_getElem? (i := 4) rfl))) rfl rfl rfl (by decide +kernel) ⟨by rw [← hR]; exact Nat.le_of_ble_eq_true rfl, by rw [← hR]; exact Nat.le_of_ble_eq_true rfl⟩) ⟨fun a U g mk q => by obtain ⟨q0, q1, q2, qK, q10, q11, q12, q13, q14, q15, q16, q17⟩ := q; exact ⟨q0, q1, q2, jG.calling g mk a qK, (q10.moved (Vm.Alike.refl U.vm)), q11, q12, q13, q14, q15, q16, q17⟩, hh_8.recv (C := RX4) (T := TX4) (N := 12) hB6 rfl (by decide) hg_js hK, fun U hU hW => ⟨rfl, hU, hh_8.2.1, hG.step hW hU hh_8.1, (hstr324.moved hW.alike).kept hh_8.1.2.1, hg_js, hg_wk, hg_wi, hg_wz, (hh_8.2.2.1.sub (L1 := [(js, 6, 7, .int pv), (js, 6, 0, .ref wk), (js, 6, 1, .ref wi), (js, 6, 2, .ref wz)]) [6, 8, 9, 10] rfl), (hh_8.2.2.2.2.2.2.2.1.sub (L1 := [(wk, 140, 1502, ca 1, fk), (wi, 141, 1502, ca 1, fi), (wz, 142, 1502, ca 1, fz)]) [0, 1, 2] rfl), ⟨(by first | (with_reducible assumption) | omega | rfl | fail), (by first | (with_reducible assumption) | omega | rfl | fail), (by first | (with_reducible assumption) | omega | rfl | fail), (by first | assumption | fail | omega)⟩⟩⟩ rfl rfl hl.1 rfl (lv_room (Nat.le_of_ble_eq_true rfl)) dX11_notification_54 ⟨by rw [hRc]; show _ + 0 ≤ _; omega, by rw [hRs]; show _ + 0 ≤ _; omega⟩) hh_8.1 (fun q _ h => h) (fun q h => h) (fun r_12 u_11 t_11 H_11 locs_11 ht_11 hvm_11 hr_12 hb_11 hz_11 hk_11 hS_11 => ?_)
      rw [ht_11] at hb_11
      obtain ⟨hb_11, hbF_11⟩ := hb_11
      obtain ⟨hb_111, hb_112, hb_113, hb_114, hb_115⟩ := hb_11
      have hh_11 : jSt (dC, dI) B base G0 G0 EX11_notification s.heap 0 0 [(r0, 13, 11, .int phase_9), (r0, 13, 4, .ref bo), (bo, 2, 1, .int pc), (bo, 2, 0, .ref pa), (r0, 13, 3, .ref ou), (r0, 13, 2, .ref js), (js, 6, 7, .int pv), (js, 6, 8, .int pu), (js, 6, 0, .ref wk), (js, 6, 1, .ref wi), (js, 6, 2, .ref wz), (js, 6, 4, .ref jkf), (js, 6, 5, .ref jks), (r0, 13, 1, .ref fm), (fm, 4, 1, .int fl), (r0, 13, 7, .ref op), (op, 1, 2, .int sz)] [(wk, 140, 1502, ca 1, fk), (wi, 141, 1502, ca 1, fi), (wz, 142, 1502, ca 1, fz), (jkf, 144, 1502, ca 1, fa), (jks, 145, 1502, ca 1, fs)] [([(2, 0), (2, 1)], jOl (dC, dI) G0 2 [bo, ou] s.heap), (jFy, jYb dC dI G0), (jFl, jLs dC dI ca G0 3 none), (jFdo, jDcc dC dI ca G0 none ph)] H_11 locs_11 := ((hh_8.call hb_111 hb_112 hb_113 hb_114 hS_11 rfl (L1 := [(r0, 13, 11, .int phase_9), (r0, 13, 4, .ref bo), (bo, 2, 1, .int pc), (bo, 2, 0, .ref pa), (r0, 13, 3, .ref ou), (r0, 13, 2, .ref js), (js, 6, 7, .int pv), (js, 6, 8, .int pu), (js, 6, 0, .ref wk), (js, 6, 1, .ref wi), (js, 6, 2, .ref wz), (js, 6, 4, .ref jkf), (js, 6, 5, .ref jks), (r0, 13, 1, .ref fm), (fm, 4, 1, .int fl), (r0, 13, 7, .ref op), (op, 1, 2, .int sz)]) [0, 1, 2, 3, 4, 5, 6, 7, 8, 9, 10, 11, 12, 13, 14, 15, 16] rfl rfl (M1 := [(wk, 140, 1502, ca 1, fk), (wi, 141, 1502, ca 1, fi), (wz, 142, 1502, ca 1, fz), (jkf, 144, 1502, ca 1, fa), (jks, 145, 1502, ca 1, fs)]) [0, 1, 2, 3, 4] rfl rfl (I1 := [([(2, 0), (2, 1)], jOl (dC, dI) G0 2 [bo, ou] s.heap), (jFy, jYb dC dI G0), (jFl, jLs dC dI ca G0 3 none), (jFdo, jDcc dC dI ca G0 none ph)]) [0, 1, 2, 3] rfl rfl).more hb_115)
      clear hh_8 ht_11 hvm_11 hz_11 hk_11 hS_11 hb_111 hb_112 hb_113 hb_114 hb_115
      obtain ⟨hr_12b, hr_12p⟩ := hr_12
      have hr_12po := jOr.of hr_12p
      clear hr_12p
      have hr_12p := hr_12po
      clear hr_12po
      have hr_12' := jb_01 hr_12b
      refine lv_if_eq (tgt := 67) hx hb dX11_notification_57 (by decide) (fun c_13 => ?_) (fun c_13 => ?_)
      · skip
        have c_13' : r_12.toInt = 0 := jb_eq (rfl) ((by decide)) c_13
        first | (have hr_12pq := hr_12p.resolve_left (by omega); clear hr_12p) | (have hr_12pq := hr_12p.resolve_right (by omega); clear hr_12p) | try clear hr_12p
        first | (have hr_3_2q := hr_3_2.resolve_left (by omega); clear hr_3_2) | (have hr_3_2q := hr_3_2.resolve_right (by omega); clear hr_3_2) | skip
        refine lv_aload_n hx hb dX11_notification_67 rfl (lv_at hl 1 rfl) ?_
        refine j7_read hx hb hown hK (C := RX11) (T := TX11) (N := 19) rfl hly_13_2 hlk_28 (hh_11.at 5 rfl) dX11_notification_68 ?_
        refine lv_iload_n hx hb dX11_notification_71 rfl (lv_at hl 0 rfl) ?_
        refine j_ldcSw hx hb hown rstr329 dX11_notification_72 ?_
        try clear hsz_11 htt_11 hrc_11 hrs_11
        have hsz_14 := hh_11.2.2.2.2.2.1
        have htt_14 := hh_11.2.2.2.2.2.2.1
        refine W.room (fun hrc_14 hrs_14 => ?_)
        refine va_calli (A0 := jA base) (H0 := s.heap) (va_runV (As := [.int r_3, .ref str329]) (rest := []) ⟨hx, hb, hml, hown, hts⟩ (uX4_isTextQ l dC dI ca base B hB hAp hB6 hB140 hB141 hB142 hB146 G0 H_11 js r_3 str329 22 pv wk wi wz fk fi fz) (cwV 2 hts (jgV (jWr_27 _ (List.mem_of_getElem? (i := 1) rfl)) (jWr_27 _ (List.mem_of_getElem? (i := 2) rfl)) (jWr_27 _ (List.mem_of_getElem? (i := 3) rfl)) (jWr_1 _ (List.mem_of_getElem? (i := 22) rfl)) (jWr_27 _ (List.mem_of_getElem? (i := 4) rfl))) rfl rfl rfl (by decide +kernel) ⟨by rw [← hR]; exact Nat.le_of_ble_eq_true rfl, by rw [← hR]; exact Nat.le_of_ble_eq_true rfl⟩) ⟨fun a U g mk q => by obtain ⟨q0, q1, q2, qK, q10, q11, q12, q13, q14, q15, q16, q17⟩ := q; exact ⟨q0, q1, q2, jG.calling g mk a qK, (q10.moved (Vm.Alike.refl U.vm)), q11, q12, q13, q14, q15, q16, q17⟩, hh_11.recv (C := RX4) (T := TX4) (N := 12) hB6 rfl (by decide) hg_js hK, fun U hU hW => ⟨rfl, hU, hh_11.2.1, hG.step hW hU hh_11.1, (hstr329.moved hW.alike).kept hh_11.1.2.1, hg_js, hg_wk, hg_wi, hg_wz, (hh_11.2.2.1.sub (L1 := [(js, 6, 7, .int pv), (js, 6, 0, .ref wk), (js, 6, 1, .ref wi), (js, 6, 2, .ref wz)]) [6, 8, 9, 10] rfl), (hh_11.2.2.2.2.2.2.2.1.sub (L1 := [(wk, 140, 1502, ca 1, fk), (wi, 141, 1502, ca 1, fi), (wz, 142, 1502, ca 1, fz)]) [0, 1, 2] rfl), ⟨(by first | (with_reducible assumption) | omega | rfl | fail), (by first | (with_reducible assumption) | omega | rfl | fail), (by first | (with_reducible assumption) | omega | rfl | fail), (by first | assumption | fail | omega)⟩⟩⟩ rfl rfl hl.1 rfl (lv_room (Nat.le_of_ble_eq_true rfl)) dX11_notification_75 ⟨by rw [hRc]; show _ + 0 ≤ _; omega, by rw [hRs]; show _ + 0 ≤ _; omega⟩) hh_11.1 (fun q _ h => h) (fun q h => h) (fun r_15 u_14 t_14 H_14 locs_14 ht_14 hvm_14 hr_15 hb_14 hz_14 hk_14 hS_14 => ?_)
        rw [ht_14] at hb_14
        obtain ⟨hb_14, hbF_14⟩ := hb_14
        obtain ⟨hb_141, hb_142, hb_143, hb_144, hb_145⟩ := hb_14
        have hh_14 : jSt (dC, dI) B base G0 G0 EX11_notification s.heap 0 0 [(r0, 13, 11, .int phase_9), (r0, 13, 4, .ref bo), (bo, 2, 1, .int pc), (bo, 2, 0, .ref pa), (r0, 13, 3, .ref ou), (r0, 13, 2, .ref js), (js, 6, 7, .int pv), (js, 6, 8, .int pu), (js, 6, 0, .ref wk), (js, 6, 1, .ref wi), (js, 6, 2, .ref wz), (js, 6, 4, .ref jkf), (js, 6, 5, .ref jks), (r0, 13, 1, .ref fm), (fm, 4, 1, .int fl), (r0, 13, 7, .ref op), (op, 1, 2, .int sz)] [(wk, 140, 1502, ca 1, fk), (wi, 141, 1502, ca 1, fi), (wz, 142, 1502, ca 1, fz), (jkf, 144, 1502, ca 1, fa), (jks, 145, 1502, ca 1, fs)] [([(2, 0), (2, 1)], jOl (dC, dI) G0 2 [bo, ou] s.heap), (jFy, jYb dC dI G0), (jFl, jLs dC dI ca G0 3 none), (jFdo, jDcc dC dI ca G0 none ph)] H_14 locs_14 := ((hh_11.call hb_141 hb_142 hb_143 hb_144 hS_14 rfl (L1 := [(r0, 13, 11, .int phase_9), (r0, 13, 4, .ref bo), (bo, 2, 1, .int pc), (bo, 2, 0, .ref pa), (r0, 13, 3, .ref ou), (r0, 13, 2, .ref js), (js, 6, 7, .int pv), (js, 6, 8, .int pu), (js, 6, 0, .ref wk), (js, 6, 1, .ref wi), (js, 6, 2, .ref wz), (js, 6, 4, .ref jkf), (js, 6, 5, .ref jks), (r0, 13, 1, .ref fm), (fm, 4, 1, .int fl), (r0, 13, 7, .ref op), (op, 1, 2, .int sz)]) [0, 1, 2, 3, 4, 5, 6, 7, 8, 9, 10, 11, 12, 13, 14, 15, 16] rfl rfl (M1 := [(wk, 140, 1502, ca 1, fk), (wi, 141, 1502, ca 1, fi), (wz, 142, 1502, ca 1, fz), (jkf, 144, 1502, ca 1, fa), (jks, 145, 1502, ca 1, fs)]) [0, 1, 2, 3, 4] rfl rfl (I1 := [([(2, 0), (2, 1)], jOl (dC, dI) G0 2 [bo, ou] s.heap), (jFy, jYb dC dI G0), (jFl, jLs dC dI ca G0 3 none), (jFdo, jDcc dC dI ca G0 none ph)]) [0, 1, 2, 3] rfl rfl).more hb_145)
        clear hh_11 ht_14 hvm_14 hz_14 hk_14 hS_14 hb_141 hb_142 hb_143 hb_144 hb_145
        obtain ⟨hr_15b, hr_15p⟩ := hr_15
        have hr_15po := jOr.of hr_15p
        clear hr_15p
        have hr_15p := hr_15po
        clear hr_15po
        have hr_15' := jb_01 hr_15b
        refine lv_if_eq (tgt := 88) hx hb dX11_notification_78 (by decide) (fun c_16 => ?_) (fun c_16 => ?_)
        · skip
          have c_16' : r_15.toInt = 0 := jb_eq (rfl) ((by decide)) c_16
          first | (have hr_15pq := hr_15p.resolve_left (by omega); clear hr_15p) | (have hr_15pq := hr_15p.resolve_right (by omega); clear hr_15p) | try clear hr_15p
          first | (have hr_3_2q := hr_3_2.resolve_left (by omega); clear hr_3_2) | (have hr_3_2q := hr_3_2.resolve_right (by omega); clear hr_3_2) | skip
          refine lv_aload_n hx hb dX11_notification_88 rfl (lv_at hl 1 rfl) ?_
          refine j7_read hx hb hown hK (C := RX11) (T := TX11) (N := 19) rfl hly_13_2 hlk_28 (hh_14.at 5 rfl) dX11_notification_89 ?_
          refine lv_iload_n hx hb dX11_notification_92 rfl (lv_at hl 0 rfl) ?_
          refine j_ldcSw hx hb hown rstr334 dX11_notification_93 ?_
          try clear hsz_14 htt_14 hrc_14 hrs_14
          have hsz_17 := hh_14.2.2.2.2.2.1
          have htt_17 := hh_14.2.2.2.2.2.2.1
          refine W.room (fun hrc_17 hrs_17 => ?_)
          refine va_calli (A0 := jA base) (H0 := s.heap) (va_runV (As := [.int r_3, .ref str334]) (rest := []) ⟨hx, hb, hml, hown, hts⟩ (uX4_isTextQ l dC dI ca base B hB hAp hB6 hB140 hB141 hB142 hB146 G0 H_14 js r_3 str334 21 pv wk wi wz fk fi fz) (cwV 2 hts (jgV (jWr_27 _ (List.mem_of_getElem? (i := 1) rfl)) (jWr_27 _ (List.mem_of_getElem? (i := 2) rfl)) (jWr_27 _ (List.mem_of_getElem? (i := 3) rfl)) (jWr_1 _ (List.mem_of_getElem? (i := 22) rfl)) (jWr_27 _ (List.mem_of_getElem? (i := 4) rfl))) rfl rfl rfl (by decide +kernel) ⟨by rw [← hR]; exact Nat.le_of_ble_eq_true rfl, by rw [← hR]; exact Nat.le_of_ble_eq_true rfl⟩) ⟨fun a U g mk q => by obtain ⟨q0, q1, q2, qK, q10, q11, q12, q13, q14, q15, q16, q17⟩ := q; exact ⟨q0, q1, q2, jG.calling g mk a qK, (q10.moved (Vm.Alike.refl U.vm)), q11, q12, q13, q14, q15, q16, q17⟩, hh_14.recv (C := RX4) (T := TX4) (N := 12) hB6 rfl (by decide) hg_js hK, fun U hU hW => ⟨rfl, hU, hh_14.2.1, hG.step hW hU hh_14.1, (hstr334.moved hW.alike).kept hh_14.1.2.1, hg_js, hg_wk, hg_wi, hg_wz, (hh_14.2.2.1.sub (L1 := [(js, 6, 7, .int pv), (js, 6, 0, .ref wk), (js, 6, 1, .ref wi), (js, 6, 2, .ref wz)]) [6, 8, 9, 10] rfl), (hh_14.2.2.2.2.2.2.2.1.sub (L1 := [(wk, 140, 1502, ca 1, fk), (wi, 141, 1502, ca 1, fi), (wz, 142, 1502, ca 1, fz)]) [0, 1, 2] rfl), ⟨(by first | (with_reducible assumption) | omega | rfl | fail), (by first | (with_reducible assumption) | omega | rfl | fail), (by first | (with_reducible assumption) | omega | rfl | fail), (by first | assumption | fail | omega)⟩⟩⟩ rfl rfl hl.1 rfl (lv_room (Nat.le_of_ble_eq_true rfl)) dX11_notification_96 ⟨by rw [hRc]; show _ + 0 ≤ _; omega, by rw [hRs]; show _ + 0 ≤ _; omega⟩) hh_14.1 (fun q _ h => h) (fun q h => h) (fun r_18 u_17 t_17 H_17 locs_17 ht_17 hvm_17 hr_18 hb_17 hz_17 hk_17 hS_17 => ?_)
          rw [ht_17] at hb_17
          obtain ⟨hb_17, hbF_17⟩ := hb_17
          obtain ⟨hb_171, hb_172, hb_173, hb_174, hb_175⟩ := hb_17
          have hh_17 : jSt (dC, dI) B base G0 G0 EX11_notification s.heap 0 0 [(r0, 13, 11, .int phase_9), (r0, 13, 4, .ref bo), (bo, 2, 1, .int pc), (bo, 2, 0, .ref pa), (r0, 13, 3, .ref ou), (r0, 13, 2, .ref js), (js, 6, 7, .int pv), (js, 6, 8, .int pu), (js, 6, 0, .ref wk), (js, 6, 1, .ref wi), (js, 6, 2, .ref wz), (js, 6, 4, .ref jkf), (js, 6, 5, .ref jks), (r0, 13, 1, .ref fm), (fm, 4, 1, .int fl), (r0, 13, 7, .ref op), (op, 1, 2, .int sz)] [(wk, 140, 1502, ca 1, fk), (wi, 141, 1502, ca 1, fi), (wz, 142, 1502, ca 1, fz), (jkf, 144, 1502, ca 1, fa), (jks, 145, 1502, ca 1, fs)] [([(2, 0), (2, 1)], jOl (dC, dI) G0 2 [bo, ou] s.heap), (jFy, jYb dC dI G0), (jFl, jLs dC dI ca G0 3 none), (jFdo, jDcc dC dI ca G0 none ph)] H_17 locs_17 := ((hh_14.call hb_171 hb_172 hb_173 hb_174 hS_17 rfl (L1 := [(r0, 13, 11, .int phase_9), (r0, 13, 4, .ref bo), (bo, 2, 1, .int pc), (bo, 2, 0, .ref pa), (r0, 13, 3, .ref ou), (r0, 13, 2, .ref js), (js, 6, 7, .int pv), (js, 6, 8, .int pu), (js, 6, 0, .ref wk), (js, 6, 1, .ref wi), (js, 6, 2, .ref wz), (js, 6, 4, .ref jkf), (js, 6, 5, .ref jks), (r0, 13, 1, .ref fm), (fm, 4, 1, .int fl), (r0, 13, 7, .ref op), (op, 1, 2, .int sz)]) [0, 1, 2, 3, 4, 5, 6, 7, 8, 9, 10, 11, 12, 13, 14, 15, 16] rfl rfl (M1 := [(wk, 140, 1502, ca 1, fk), (wi, 141, 1502, ca 1, fi), (wz, 142, 1502, ca 1, fz), (jkf, 144, 1502, ca 1, fa), (jks, 145, 1502, ca 1, fs)]) [0, 1, 2, 3, 4] rfl rfl (I1 := [([(2, 0), (2, 1)], jOl (dC, dI) G0 2 [bo, ou] s.heap), (jFy, jYb dC dI G0), (jFl, jLs dC dI ca G0 3 none), (jFdo, jDcc dC dI ca G0 none ph)]) [0, 1, 2, 3] rfl rfl).more hb_175)
          clear hh_14 ht_17 hvm_17 hz_17 hk_17 hS_17 hb_171 hb_172 hb_173 hb_174 hb_175
          obtain ⟨hr_18b, hr_18p⟩ := hr_18
          have hr_18po := jOr.of hr_18p
          clear hr_18p
          have hr_18p := hr_18po
          clear hr_18po
          have hr_18' := jb_01 hr_18b
          refine lv_if_eq (tgt := 109) hx hb dX11_notification_99 (by decide) (fun c_19 => ?_) (fun c_19 => ?_)
          · skip
            have c_19' : r_18.toInt = 0 := jb_eq (rfl) ((by decide)) c_19
            first | (have hr_18pq := hr_18p.resolve_left (by omega); clear hr_18p) | (have hr_18pq := hr_18p.resolve_right (by omega); clear hr_18p) | try clear hr_18p
            first | (have hr_3_2q := hr_3_2.resolve_left (by omega); clear hr_3_2) | (have hr_3_2q := hr_3_2.resolve_right (by omega); clear hr_3_2) | skip
            refine lv_aload_n hx hb dX11_notification_109 rfl (lv_at hl 1 rfl) ?_
            refine j7_read hx hb hown hK (C := RX11) (T := TX11) (N := 19) rfl hly_13_2 hlk_28 (hh_17.at 5 rfl) dX11_notification_110 ?_
            refine lv_iload_n hx hb dX11_notification_113 rfl (lv_at hl 0 rfl) ?_
            refine j_ldcSw hx hb hown rstr339 dX11_notification_114 ?_
            try clear hsz_17 htt_17 hrc_17 hrs_17
            have hsz_20 := hh_17.2.2.2.2.2.1
            have htt_20 := hh_17.2.2.2.2.2.2.1
            refine W.room (fun hrc_20 hrs_20 => ?_)
            refine va_calli (A0 := jA base) (H0 := s.heap) (va_runV (As := [.int r_3, .ref str339]) (rest := []) ⟨hx, hb, hml, hown, hts⟩ (uX4_isTextQ l dC dI ca base B hB hAp hB6 hB140 hB141 hB142 hB146 G0 H_17 js r_3 str339 15 pv wk wi wz fk fi fz) (cwV 2 hts (jgV (jWr_27 _ (List.mem_of_getElem? (i := 1) rfl)) (jWr_27 _ (List.mem_of_getElem? (i := 2) rfl)) (jWr_27 _ (List.mem_of_getElem? (i := 3) rfl)) (jWr_1 _ (List.mem_of_getElem? (i := 22) rfl)) (jWr_27 _ (List.mem_of_getElem? (i := 4) rfl))) rfl rfl rfl (by decide +kernel) ⟨by rw [← hR]; exact Nat.le_of_ble_eq_true rfl, by rw [← hR]; exact Nat.le_of_ble_eq_true rfl⟩) ⟨fun a U g mk q => by obtain ⟨q0, q1, q2, qK, q10, q11, q12, q13, q14, q15, q16, q17⟩ := q; exact ⟨q0, q1, q2, jG.calling g mk a qK, (q10.moved (Vm.Alike.refl U.vm)), q11, q12, q13, q14, q15, q16, q17⟩, hh_17.recv (C := RX4) (T := TX4) (N := 12) hB6 rfl (by decide) hg_js hK, fun U hU hW => ⟨rfl, hU, hh_17.2.1, hG.step hW hU hh_17.1, (hstr339.moved hW.alike).kept hh_17.1.2.1, hg_js, hg_wk, hg_wi, hg_wz, (hh_17.2.2.1.sub (L1 := [(js, 6, 7, .int pv), (js, 6, 0, .ref wk), (js, 6, 1, .ref wi), (js, 6, 2, .ref wz)]) [6, 8, 9, 10] rfl), (hh_17.2.2.2.2.2.2.2.1.sub (L1 := [(wk, 140, 1502, ca 1, fk), (wi, 141, 1502, ca 1, fi), (wz, 142, 1502, ca 1, fz)]) [0, 1, 2] rfl), ⟨(by first | (with_reducible assumption) | omega | rfl | fail), (by first | (with_reducible assumption) | omega | rfl | fail), (by first | (with_reducible assumption) | omega | rfl | fail), (by first | assumption | fail | omega)⟩⟩⟩ rfl rfl hl.1 rfl (lv_room (Nat.le_of_ble_eq_true rfl)) dX11_notification_117 ⟨by rw [hRc]; show _ + 0 ≤ _; omega, by rw [hRs]; show _ + 0 ≤ _; omega⟩) hh_17.1 (fun q _ h => h) (fun q h => h) (fun r_21 u_20 t_20 H_20 locs_20 ht_20 hvm_20 hr_21 hb_20 hz_20 hk_20 hS_20 => ?_)
            rw [ht_20] at hb_20
            obtain ⟨hb_20, hbF_20⟩ := hb_20
            obtain ⟨hb_201, hb_202, hb_203, hb_204, hb_205⟩ := hb_20
            have hh_20 : jSt (dC, dI) B base G0 G0 EX11_notification s.heap 0 0 [(r0, 13, 11, .int phase_9), (r0, 13, 4, .ref bo), (bo, 2, 1, .int pc), (bo, 2, 0, .ref pa), (r0, 13, 3, .ref ou), (r0, 13, 2, .ref js), (js, 6, 7, .int pv), (js, 6, 8, .int pu), (js, 6, 0, .ref wk), (js, 6, 1, .ref wi), (js, 6, 2, .ref wz), (js, 6, 4, .ref jkf), (js, 6, 5, .ref jks), (r0, 13, 1, .ref fm), (fm, 4, 1, .int fl), (r0, 13, 7, .ref op), (op, 1, 2, .int sz)] [(wk, 140, 1502, ca 1, fk), (wi, 141, 1502, ca 1, fi), (wz, 142, 1502, ca 1, fz), (jkf, 144, 1502, ca 1, fa), (jks, 145, 1502, ca 1, fs)] [([(2, 0), (2, 1)], jOl (dC, dI) G0 2 [bo, ou] s.heap), (jFy, jYb dC dI G0), (jFl, jLs dC dI ca G0 3 none), (jFdo, jDcc dC dI ca G0 none ph)] H_20 locs_20 := ((hh_17.call hb_201 hb_202 hb_203 hb_204 hS_20 rfl (L1 := [(r0, 13, 11, .int phase_9), (r0, 13, 4, .ref bo), (bo, 2, 1, .int pc), (bo, 2, 0, .ref pa), (r0, 13, 3, .ref ou), (r0, 13, 2, .ref js), (js, 6, 7, .int pv), (js, 6, 8, .int pu), (js, 6, 0, .ref wk), (js, 6, 1, .ref wi), (js, 6, 2, .ref wz), (js, 6, 4, .ref jkf), (js, 6, 5, .ref jks), (r0, 13, 1, .ref fm), (fm, 4, 1, .int fl), (r0, 13, 7, .ref op), (op, 1, 2, .int sz)]) [0, 1, 2, 3, 4, 5, 6, 7, 8, 9, 10, 11, 12, 13, 14, 15, 16] rfl rfl (M1 := [(wk, 140, 1502, ca 1, fk), (wi, 141, 1502, ca 1, fi), (wz, 142, 1502, ca 1, fz), (jkf, 144, 1502, ca 1, fa), (jks, 145, 1502, ca 1, fs)]) [0, 1, 2, 3, 4] rfl rfl (I1 := [([(2, 0), (2, 1)], jOl (dC, dI) G0 2 [bo, ou] s.heap), (jFy, jYb dC dI G0), (jFl, jLs dC dI ca G0 3 none), (jFdo, jDcc dC dI ca G0 none ph)]) [0, 1, 2, 3] rfl rfl).more hb_205)
            clear hh_17 ht_20 hvm_20 hz_20 hk_20 hS_20 hb_201 hb_202 hb_203 hb_204 hb_205
            obtain ⟨hr_21b, hr_21p⟩ := hr_21
            have hr_21po := jOr.of hr_21p
            clear hr_21p
            have hr_21p := hr_21po
            clear hr_21po
            have hr_21' := jb_01 hr_21b
            refine lv_if_eq (tgt := 127) hx hb dX11_notification_120 (by decide) (fun c_22 => ?_) (fun c_22 => ?_)
            · skip
              have c_22' : r_21.toInt = 0 := jb_eq (rfl) ((by decide)) c_22
              first | (have hr_21pq := hr_21p.resolve_left (by omega); clear hr_21p) | (have hr_21pq := hr_21p.resolve_right (by omega); clear hr_21p) | try clear hr_21p
              first | (have hr_3_2q := hr_3_2.resolve_left (by omega); clear hr_3_2) | (have hr_3_2q := hr_3_2.resolve_right (by omega); clear hr_3_2) | skip
              try clear hsz_20 htt_20 hrc_20 hrs_20
              have hsz_23 := hh_20.2.2.2.2.2.1
              have htt_23 := hh_20.2.2.2.2.2.2.1
              refine W.room (fun hrc_23 hrs_23 => ?_)
              refine W.widen (k := LC - s.heap.size) (n := LS - jTot s.heap) (by omega) (by omega) ?_
              rw [hQ]
              exact W.vret hx hb hr (fun t ht hW => ⟨⟨(pc, pa, n_pa, ph, G0), rfl, by (try dsimp only); exact ⟨(by first | (with_reducible assumption) | omega | rfl | fail), (by first | (with_reducible assumption) | omega | rfl | fail), (by first | (with_reducible assumption) | omega | rfl | fail), (by first | (with_reducible assumption) | omega | rfl | fail), (by first | assumption | fail | omega), (by first | (with_reducible assumption) | omega | rfl | fail)⟩, ⟨hh_20.ra (by first | (simp only; omega) | omega) (by first | (simp only; omega) | omega) (M1 := [(bo, 2, 1, .int pc), (bo, 2, 0, .ref pa)]) [2, 3] rfl ht, hg_pa, jNk.rf, by rw [ht]; exact hh_20.iv 0 rfl, by rw [ht]; exact hh_20.2.2.2.2.2.2.2.2.sub (L1 := [(jFy, jYb dC dI G0), (jFl, jLs dC dI ca G0 3 none), (jFdo, jDcc dC dI ca G0 none ph)]) [1, 2, 3] rfl⟩⟩, by rw [ht]; try exact hh_20.1.1, fun q h9 hq => by rw [ht]; try exact hh_20.1.2.1 q h9 hq⟩) hh_20.1.2.2 dX11_notification_127
            · skip
              have c_22' : r_21.toInt ≠ 0 := jb_eq_n (rfl) ((by decide)) c_22
              first | (have hr_21pq := hr_21p.resolve_left (by omega); clear hr_21p) | (have hr_21pq := hr_21p.resolve_right (by omega); clear hr_21p) | try clear hr_21p
              first | (have hr_3_2q := hr_3_2.resolve_left (by omega); clear hr_3_2) | (have hr_3_2q := hr_3_2.resolve_right (by omega); clear hr_3_2) | skip
              have hmg := jMh.mg (m := r_3.toInt) hp11 (by omega) (by omega) (by omega) (by omega) (by omega : jSo fz r_3.toInt = 15)
              have hb2 := jMg.two hmg
              refine lv_aload_n hx hb dX11_notification_123 rfl (lv_at hl 1 rfl) ?_
              try clear hsz_20 htt_20 hrc_20 hrs_20
              have hsz_24 := hh_20.2.2.2.2.2.1
              have htt_24 := hh_20.2.2.2.2.2.2.1
              refine W.room (fun hrc_24 hrs_24 => ?_)
              refine va_callv (A0 := jA base) (H0 := s.heap) (va_runV (As := []) (rest := []) ⟨hx, hb, hml, hown, hts⟩ (uX11_cancelRequest l dC dI ca base B hB hAp hB1 hB2 hB3 hB4 hB6 hB10 hB13 hB101 hB140 hB141 hB142 hB143 hB144 hB145 hB146 hB196 hB222 G0 H_20 r0 bo pc pa n_pa ou js pv pu wk wi wz jks fk fi fz fs LC LS) (cwV 0 hts (jgV (jWr_43 _ (List.mem_of_getElem? (i := 18) rfl)) (jWr_43 _ (List.mem_of_getElem? (i := 19) rfl)) (jWr_43 _ (List.mem_of_getElem? (i := 20) rfl)) (jWr_1 _ (List.mem_of_getElem? (i := 2) rfl)) (jWr_43 _ (List.mem_of_getElem? (i := 21) rfl))) rfl rfl rfl (by decide +kernel) ⟨by rw [← hR]; exact Nat.le_of_ble_eq_true rfl, by rw [← hR]; exact Nat.le_of_ble_eq_true rfl⟩) ⟨fun a U g mk q => by obtain ⟨q0, q1, q2, qK, q10, q11, q12, q13, q14, q15, q16, q17, q18, q19, q20, q21, q22, q23, q24⟩ := q; exact ⟨q0, q1, q2, jG.calling g mk a qK, (jK5.moved (Vm.Alike.refl U.vm) q10), (jK7.calling g mk a q11), q12, q13, q14, q15, q16, q17, q18, q19, q20, q21, q22, q23, q24⟩, hh_20.recv (C := RX11) (T := TX11) (N := 19) hB13 rfl (by decide) hg_r0 hK, fun U hU hW => ⟨rfl, hU, hh_20.2.1, hG.step hW hU hh_20.1, jK5.moved hW.alike hK5, (hK7.step hW hU hh_20.1), hg_r0, hg_bo, hg_pa, hg_ou, hg_js, hg_wk, hg_wi, hg_wz, hg_jks, (hh_20.2.2.1.sub (L1 := [(r0, 13, 4, .ref bo), (bo, 2, 1, .int pc), (bo, 2, 0, .ref pa), (r0, 13, 3, .ref ou), (r0, 13, 2, .ref js), (js, 6, 7, .int pv), (js, 6, 8, .int pu), (js, 6, 0, .ref wk), (js, 6, 1, .ref wi), (js, 6, 2, .ref wz), (js, 6, 5, .ref jks)]) [1, 2, 3, 4, 5, 6, 7, 8, 9, 10, 12] rfl), (hh_20.2.2.2.2.2.2.2.1.sub (L1 := [(wk, 140, 1502, ca 1, fk), (wi, 141, 1502, ca 1, fi), (wz, 142, 1502, ca 1, fz), (jks, 145, 1502, ca 1, fs)]) [0, 1, 2, 4] rfl), (hh_20.2.2.2.2.2.2.2.2.sub (L1 := [(jFy, jYb dC dI G0), (jFl, jLs dC dI ca G0 3 none)]) [1, 2] rfl), (by omega), (by omega), ⟨(by first | (with_reducible assumption) | omega | rfl | fail), (by first | (with_reducible assumption) | omega | rfl | fail), (by first | (with_reducible assumption) | omega | rfl | fail), (by first | (with_reducible assumption) | omega | rfl | fail), (by first | assumption | fail | omega), (by first | (with_reducible assumption) | omega | rfl | fail), (by first | (with_reducible assumption) | omega | rfl | fail), (by first | (with_reducible assumption) | omega | rfl | fail), (by first | (with_reducible assumption) | omega | rfl | fail), (by first | assumption | fail | omega), (by first | assumption | fail | omega)⟩⟩⟩ rfl rfl hl.1 rfl (lv_room (Nat.le_of_ble_eq_true rfl)) dX11_notification_124 ⟨by rw [hRc]; omega, by rw [hRs]; omega⟩) hh_20.1 (fun q _ h => h) (fun q h => h) (fun u_24 t_24 H_24 locs_24 ht_24 hvm_24 hr_25 hb_24 hz_24 hk_24 hS_24 => ?_)
              obtain ⟨qc_24, qa_24, m_qa_24, G_24⟩ := u_24
              rw [ht_24] at hb_24
              simp only at hb_24
              obtain ⟨⟨hb_241, hb_242, hb_243, hb_244, hb_245, hb_246⟩, hgq_24_0, hN_24, hbO_24, hbE_24⟩ := hb_24
              have hE9_24 := hN_24
              have hN_24 : (jNk [0, 1, 4, 5, 6, 7, 8, 9, 11, 12, 13, 14, 15, 16]) G0 G_24 := hN_24.sub (by decide)
              have hh_24 : jSt (dC, dI) B base G0 G_24 EX11_notification s.heap (0 + ((m_qa_24 - n_pa) / 16 + 11)) (0 + (2 * (m_qa_24 - n_pa) + 267)) [(bo, 2, 1, .int qc_24), (bo, 2, 0, .ref qa_24), (r0, 13, 11, .int phase_9), (r0, 13, 4, .ref bo), (r0, 13, 3, .ref ou), (r0, 13, 2, .ref js), (js, 6, 7, .int pv), (js, 6, 8, .int pu), (js, 6, 0, .ref wk), (js, 6, 1, .ref wi), (js, 6, 2, .ref wz), (js, 6, 4, .ref jkf), (js, 6, 5, .ref jks), (r0, 13, 1, .ref fm), (fm, 4, 1, .int fl), (r0, 13, 7, .ref op)] [(wk, 140, 1502, ca 1, fk), (wi, 141, 1502, ca 1, fi), (wz, 142, 1502, ca 1, fz), (jkf, 144, 1502, ca 1, fa), (jks, 145, 1502, ca 1, fs)] [(jFdo, jDcc dC dI ca G0 none ph)] H_24 locs_24 := (hh_20.callG hb_241 hb_242 hb_243 hb_244 hb_245 hS_24 rfl (L1 := [(r0, 13, 11, .int phase_9), (r0, 13, 4, .ref bo), (r0, 13, 3, .ref ou), (r0, 13, 2, .ref js), (js, 6, 7, .int pv), (js, 6, 8, .int pu), (js, 6, 0, .ref wk), (js, 6, 1, .ref wi), (js, 6, 2, .ref wz), (js, 6, 4, .ref jkf), (js, 6, 5, .ref jks), (r0, 13, 1, .ref fm), (fm, 4, 1, .int fl), (r0, 13, 7, .ref op)]) [0, 1, 4, 5, 6, 7, 8, 9, 10, 11, 12, 13, 14, 15] rfl rfl (M1 := [(wk, 140, 1502, ca 1, fk), (wi, 141, 1502, ca 1, fi), (wz, 142, 1502, ca 1, fz), (jkf, 144, 1502, ca 1, fa), (jks, 145, 1502, ca 1, fs)]) [0, 1, 2, 3, 4] rfl rfl (I1 := [(jFdo, jDcc dC dI ca G0 none ph)]) [3] rfl rfl).more hb_246
              have hNn_24 : (jNk [0, 1, 4, 5, 6, 7, 8, 9, 11, 12, 13, 14, 15, 16]) G0 G_24 := (jNk.rf).tr hN_24
              have hg_26 := hb_242 _ _ hg_r0
              have hg_27 := hb_242 _ _ hg_bo
              have hg_28 := hb_242 _ _ hg_ou
              have hg_29 := hb_242 _ _ hg_js
              have hg_30 := hb_242 _ _ hg_wk
              have hg_31 := hb_242 _ _ hg_wi
              have hg_32 := hb_242 _ _ hg_wz
              have hg_33 := hb_242 _ _ hg_jkf
              have hg_34 := hb_242 _ _ hg_jks
              have hg_35 := hb_242 _ _ hg_fm
              have hg_36 := hb_242 _ _ hg_op
              have hd_37 := jDcc.grow (hh_24.iv 0 rfl) hb_242 hE9_24 (by decide)
              have hh_38 := hh_24.sub (L1 := [(bo, 2, 1, .int qc_24), (bo, 2, 0, .ref qa_24), (r0, 13, 11, .int phase_9), (r0, 13, 4, .ref bo), (r0, 13, 3, .ref ou), (r0, 13, 2, .ref js), (js, 6, 7, .int pv), (js, 6, 8, .int pu), (js, 6, 0, .ref wk), (js, 6, 1, .ref wi), (js, 6, 2, .ref wz), (js, 6, 4, .ref jkf), (js, 6, 5, .ref jks), (r0, 13, 1, .ref fm), (fm, 4, 1, .int fl), (r0, 13, 7, .ref op)]) [0, 1, 2, 3, 4, 5, 6, 7, 8, 9, 10, 11, 12, 13, 14, 15] rfl (M1 := [(wk, 140, 1502, ca 1, fk), (wi, 141, 1502, ca 1, fi), (wz, 142, 1502, ca 1, fz), (jkf, 144, 1502, ca 1, fa), (jks, 145, 1502, ca 1, fs)]) [0, 1, 2, 3, 4] rfl (I1 := []) [] rfl
              clear hh_24
              have hh_39 := hh_38.addI (jDcc.ie hd_37)
              clear hh_38
              have hh_40 := hh_39.addIs hbE_24
              have hd_41 := jOl.trL (hh_20.iv 0 rfl) hh_20.2.2.2.2.1 hbO_24 (by simp)
              have hh_42 := hh_40.addI (jOl.ie (dC := dC) (dI := dI) (G0 := G0) (k := 2) (rs := [bo, ou]) (H0 := s.heap) (F := [(2, 0), (2, 1)]) (C := RX0) (T := TX0) (N := 2) rfl (by decide) hh_40.2.2.2.2.1 (hd_41))
              clear hh_40
              try simp only at hr_25
              obtain ⟨hr_25_0, hr_25_1, hr_25_2, hr_25_3, hr_25_4⟩ := hr_25
              try clear hsz_24 htt_24 hrc_24 hrs_24
              have hsz_43 := hh_42.2.2.2.2.2.1
              have htt_43 := hh_42.2.2.2.2.2.2.1
              refine W.room (fun hrc_43 hrs_43 => ?_)
              refine W.widen (k := LC - s.heap.size) (n := LS - jTot s.heap) (by omega) (by omega) ?_
              rw [hQ]
              exact W.vret hx hb hr (fun t ht hW => ⟨⟨(qc_24, qa_24, m_qa_24, ph, G_24), rfl, by (try dsimp only); exact ⟨(by first | (with_reducible assumption) | omega | rfl | fail), (by first | (with_reducible assumption) | omega | rfl | fail), (by first | (with_reducible assumption) | omega | rfl | fail), (by first | (with_reducible assumption) | omega | rfl | fail), (by first | assumption | fail | omega), (by first | (with_reducible assumption) | omega | rfl | fail)⟩, ⟨hh_42.ra (by first | (simp only; omega) | omega) (by first | (simp only; omega) | omega) (M1 := [(bo, 2, 1, .int qc_24), (bo, 2, 0, .ref qa_24)]) [0, 1] rfl ht, hgq_24_0, hNn_24, by rw [ht]; exact hh_42.iv 0 rfl, by rw [ht]; exact hh_42.2.2.2.2.2.2.2.2.sub (L1 := [(jFy, jYb dC dI G_24), (jFl, jLs dC dI ca G_24 3 none), (jFdo, jDcc dC dI ca G_24 none ph)]) [1, 2, 3] rfl⟩⟩, by rw [ht]; try exact hh_42.1.1, fun q h9 hq => by rw [ht]; try exact hh_42.1.2.1 q h9 hq⟩) hh_42.1.2.2 dX11_notification_127
          · skip
            have c_19' : r_18.toInt ≠ 0 := jb_eq_n (rfl) ((by decide)) c_19
            first | (have hr_18pq := hr_18p.resolve_left (by omega); clear hr_18p) | (have hr_18pq := hr_18p.resolve_right (by omega); clear hr_18p) | try clear hr_18p
            first | (have hr_3_2q := hr_3_2.resolve_left (by omega); clear hr_3_2) | (have hr_3_2q := hr_3_2.resolve_right (by omega); clear hr_3_2) | skip
            have hmg := jMh.mg (m := r_3.toInt) hp11 (by omega) (by omega) (by omega) (by omega) (by omega : jSo fz r_3.toInt = 21)
            have hb2 := jMg.two hmg
            refine lv_aload_n hx hb dX11_notification_102 rfl (lv_at hl 1 rfl) ?_
            try clear hsz_17 htt_17 hrc_17 hrs_17
            have hsz_44 := hh_17.2.2.2.2.2.1
            have htt_44 := hh_17.2.2.2.2.2.2.1
            refine W.room (fun hrc_44 hrs_44 => ?_)
            refine va_callv (A0 := jA base) (H0 := s.heap) (va_runV (As := []) (rest := []) ⟨hx, hb, hml, hown, hts⟩ (uX11_closeDocumentE l dC dI ca base B hB hAp hB1 hB2 hB3 hB4 hB6 hB10 hB11 hB13 hB101 hB140 hB141 hB142 hB143 hB144 hB145 hB146 hB171 hB172 hB196 hB210 hB212 hB221 hB222 G0 H_17 r0 bo pc pa n_pa ou op sz (ph) LC LS) (cwV 0 hts (jgV (jWr_43 _ (List.mem_of_getElem? (i := 10) rfl)) (jWr_43 _ (List.mem_of_getElem? (i := 11) rfl)) (jWr_43 _ (List.mem_of_getElem? (i := 12) rfl)) (jWr_1 _ (List.mem_of_getElem? (i := 2) rfl)) (jWr_43 _ (List.mem_of_getElem? (i := 13) rfl))) rfl rfl rfl (by decide +kernel) ⟨by rw [← hR]; exact Nat.le_of_ble_eq_true rfl, by rw [← hR]; exact Nat.le_of_ble_eq_true rfl⟩) ⟨fun a U g mk q => by obtain ⟨q0, q1, q2, qK, q10, q11, q12, q13, q14, q15, q16, q17, q18, q19, q20⟩ := q; exact ⟨q0, q1, q2, jG.calling g mk a qK, (va_K.moved (Vm.Alike.refl U.vm) q10), (jK5.moved (Vm.Alike.refl U.vm) q11), (jK7.calling g mk a q12), q13, q14, q15, q16, q17, q18, q19, q20⟩, hh_17.recv (C := RX11) (T := TX11) (N := 19) hB13 rfl (by decide) hg_r0 hK, fun U hU hW => ⟨rfl, hU, hh_17.2.1, hG.step hW hU hh_17.1, va_K.moved hW.alike hK2, jK5.moved hW.alike hK5, (hK7.step hW hU hh_17.1), hg_r0, hg_bo, hg_pa, hg_ou, hg_op, (hh_17.2.2.1.sub (L1 := [(r0, 13, 4, .ref bo), (bo, 2, 1, .int pc), (bo, 2, 0, .ref pa), (r0, 13, 3, .ref ou), (r0, 13, 7, .ref op), (op, 1, 2, .int sz)]) [1, 2, 3, 4, 15, 16] rfl), (hh_17.2.2.2.2.2.2.2.2.sub (L1 := [(jFy, jYb dC dI G0), (jFl, jLs dC dI ca G0 3 none), (jFdo, jDcc dC dI ca G0 none ph)]) [1, 2, 3] rfl), (by omega), (by omega), ⟨(by first | (with_reducible assumption) | omega | rfl | fail), (by first | (with_reducible assumption) | omega | rfl | fail), (by first | (with_reducible assumption) | omega | rfl | fail), (by first | (with_reducible assumption) | omega | rfl | fail), (by first | assumption | fail | omega), (by first | (with_reducible assumption) | omega | rfl | fail), (by first | (with_reducible assumption) | omega | rfl | fail)⟩⟩⟩ rfl rfl hl.1 rfl (lv_room (Nat.le_of_ble_eq_true rfl)) dX11_notification_103 ⟨by rw [hRc]; omega, by rw [hRs]; omega⟩) hh_17.1 (fun q _ h => h) (fun q h => h) (fun u_44 t_44 H_44 locs_44 ht_44 hvm_44 hr_45 hb_44 hz_44 hk_44 hS_44 => ?_)
            obtain ⟨qc_44, qa_44, m_qa_44, qph_44, G_44⟩ := u_44
            rw [ht_44] at hb_44
            simp only at hb_44
            obtain ⟨⟨hb_441, hb_442, hb_443, hb_444, hb_445, hb_446⟩, hgq_44_0, hN_44, hbO_44, hbE_44⟩ := hb_44
            have hE9_44 := hN_44
            have hY_44 := hN_44
            have hN_44 : (jNk [0, 1, 4, 5, 6, 7, 8, 9, 11, 12, 13, 14, 15, 16]) G0 G_44 := hN_44.sub (by decide)
            have hh_44 : jSt (dC, dI) B base G0 G_44 EX11_notification s.heap (0 + ((m_qa_44 - n_pa) / 16)) (0 + (2 * (m_qa_44 - n_pa))) [(bo, 2, 1, .int qc_44), (bo, 2, 0, .ref qa_44), (r0, 13, 11, .int phase_9), (r0, 13, 4, .ref bo), (r0, 13, 3, .ref ou), (r0, 13, 2, .ref js), (js, 6, 7, .int pv), (js, 6, 8, .int pu), (js, 6, 0, .ref wk), (js, 6, 1, .ref wi), (js, 6, 2, .ref wz), (js, 6, 4, .ref jkf), (js, 6, 5, .ref jks), (r0, 13, 1, .ref fm), (fm, 4, 1, .int fl), (r0, 13, 7, .ref op)] [(wk, 140, 1502, ca 1, fk), (wi, 141, 1502, ca 1, fi), (wz, 142, 1502, ca 1, fz), (jkf, 144, 1502, ca 1, fa), (jks, 145, 1502, ca 1, fs)] [] H_44 locs_44 := (hh_17.callG hb_441 hb_442 hb_443 hb_444 hb_445 hS_44 rfl (L1 := [(r0, 13, 11, .int phase_9), (r0, 13, 4, .ref bo), (r0, 13, 3, .ref ou), (r0, 13, 2, .ref js), (js, 6, 7, .int pv), (js, 6, 8, .int pu), (js, 6, 0, .ref wk), (js, 6, 1, .ref wi), (js, 6, 2, .ref wz), (js, 6, 4, .ref jkf), (js, 6, 5, .ref jks), (r0, 13, 1, .ref fm), (fm, 4, 1, .int fl), (r0, 13, 7, .ref op)]) [0, 1, 4, 5, 6, 7, 8, 9, 10, 11, 12, 13, 14, 15] rfl rfl (M1 := [(wk, 140, 1502, ca 1, fk), (wi, 141, 1502, ca 1, fi), (wz, 142, 1502, ca 1, fz), (jkf, 144, 1502, ca 1, fa), (jks, 145, 1502, ca 1, fs)]) [0, 1, 2, 3, 4] rfl rfl (I1 := []) [] rfl rfl).more hb_446
            have hNn_44 : (jNk [0, 1, 4, 5, 6, 7, 8, 9, 11, 12, 13, 14, 15, 16]) G0 G_44 := (jNk.rf).tr hN_44
            have hg_46 := hb_442 _ _ hg_r0
            have hg_47 := hb_442 _ _ hg_bo
            have hg_48 := hb_442 _ _ hg_ou
            have hg_49 := hb_442 _ _ hg_js
            have hg_50 := hb_442 _ _ hg_wk
            have hg_51 := hb_442 _ _ hg_wi
            have hg_52 := hb_442 _ _ hg_wz
            have hg_53 := hb_442 _ _ hg_jkf
            have hg_54 := hb_442 _ _ hg_jks
            have hg_55 := hb_442 _ _ hg_fm
            have hg_56 := hb_442 _ _ hg_op
            have hh_57 := hh_44.addIs hbE_44
            have hd_58 := jOl.trL (hh_17.iv 0 rfl) hh_17.2.2.2.2.1 hbO_44 (by simp)
            have hh_59 := hh_57.addI (jOl.ie (dC := dC) (dI := dI) (G0 := G0) (k := 2) (rs := [bo, ou]) (H0 := s.heap) (F := [(2, 0), (2, 1)]) (C := RX0) (T := TX0) (N := 2) rfl (by decide) hh_57.2.2.2.2.1 (hd_58))
            clear hh_57
            try simp only at hr_45
            obtain ⟨hr_45_0, hr_45_1, hr_45_2, hr_45_3, hr_45_4, hr_45_5⟩ := hr_45
            refine lv_goto (tgt := 127) hx hb dX11_notification_106 (by decide) ?_
            try clear hsz_44 htt_44 hrc_44 hrs_44
            have hsz_60 := hh_59.2.2.2.2.2.1
            have htt_60 := hh_59.2.2.2.2.2.2.1
            refine W.room (fun hrc_60 hrs_60 => ?_)
            refine W.widen (k := LC - s.heap.size) (n := LS - jTot s.heap) (by omega) (by omega) ?_
            rw [hQ]
            exact W.vret hx hb hr (fun t ht hW => ⟨⟨(qc_44, qa_44, m_qa_44, qph_44, G_44), rfl, by (try dsimp only); exact ⟨(by first | (with_reducible assumption) | omega | rfl | fail), (by first | (with_reducible assumption) | omega | rfl | fail), (by first | (with_reducible assumption) | omega | rfl | fail), (by first | (with_reducible assumption) | omega | rfl | fail), (by first | assumption | fail | omega), (by first | (with_reducible assumption) | omega | rfl | fail)⟩, ⟨hh_59.ra (by first | (simp only; omega) | omega) (by first | (simp only; omega) | omega) (M1 := [(bo, 2, 1, .int qc_44), (bo, 2, 0, .ref qa_44)]) [0, 1] rfl ht, hgq_44_0, hNn_44, by rw [ht]; exact hh_59.iv 0 rfl, by rw [ht]; exact hh_59.2.2.2.2.2.2.2.2.sub (L1 := [(jFy, jYb dC dI G_44), (jFl, jLs dC dI ca G_44 3 none), (jFdo, jDcc dC dI ca G_44 none qph_44)]) [1, 2, 3] rfl⟩⟩, by rw [ht]; try exact hh_59.1.1, fun q h9 hq => by rw [ht]; try exact hh_59.1.2.1 q h9 hq⟩) hh_59.1.2.2 dX11_notification_127
        · skip
          have c_16' : r_15.toInt ≠ 0 := jb_eq_n (rfl) ((by decide)) c_16
          first | (have hr_15pq := hr_15p.resolve_left (by omega); clear hr_15p) | (have hr_15pq := hr_15p.resolve_right (by omega); clear hr_15p) | try clear hr_15p
          first | (have hr_3_2q := hr_3_2.resolve_left (by omega); clear hr_3_2) | (have hr_3_2q := hr_3_2.resolve_right (by omega); clear hr_3_2) | skip
          have hmg := jMh.mg (m := r_3.toInt) hp11 (by omega) (by omega) (by omega) (by omega) (by omega : jSo fz r_3.toInt = 22)
          refine lv_aload_n hx hb dX11_notification_81 rfl (lv_at hl 1 rfl) ?_
          try clear hsz_14 htt_14 hrc_14 hrs_14
          have hsz_61 := hh_14.2.2.2.2.2.1
          have htt_61 := hh_14.2.2.2.2.2.2.1
          refine W.room (fun hrc_61 hrs_61 => ?_)
          refine va_callv (A0 := jA base) (H0 := s.heap) (va_runV (As := []) (rest := []) ⟨hx, hb, hml, hown, hts⟩ (uX11_changeDocument l dC dI ca base B hB hAp hB1 hB2 hB3 hB4 hB6 hB7 hB8 hB10 hB11 hB12 hB13 hB101 hB102 hB132 hB133 hB140 hB141 hB142 hB143 hB144 hB145 hB146 hB171 hB172 hB196 hB210 hB212 hB221 hB222 hB293 G0 H_14 r0 bo pc pa n_pa ou js pv pu wk wi wz jkf jks fm fl op sz (ph) fk fi fz fa fs LC LS) (cwV 0 hts (jgV (jWr_41 _ (List.mem_of_getElem? (i := 4) rfl)) (jWr_41 _ (List.mem_of_getElem? (i := 5) rfl)) (jWr_41 _ (List.mem_of_getElem? (i := 6) rfl)) (jWr_1 _ (List.mem_of_getElem? (i := 2) rfl)) (jWr_41 _ (List.mem_of_getElem? (i := 7) rfl))) rfl rfl rfl (by decide +kernel) ⟨by rw [← hR]; exact Nat.le_of_ble_eq_true rfl, by rw [← hR]; exact Nat.le_of_ble_eq_true rfl⟩) ⟨fun a U g mk q => by obtain ⟨q0, q1, q2, qK, q10, q11, q12, q13, q14, q15, q16, q17, q18, q19, q20, q21, q22, q23, q24, q25, q26, q27, q28, q29⟩ := q; exact ⟨q0, q1, q2, jG.calling g mk a qK, (va_K.moved (Vm.Alike.refl U.vm) q10), (jK5.moved (Vm.Alike.refl U.vm) q11), (jK6.moved (Vm.Alike.refl U.vm) q12), (jK7.calling g mk a q13), q14, q15, q16, q17, q18, q19, q20, q21, q22, q23, q24, q25, q26, q27, q28, q29⟩, hh_14.recv (C := RX11) (T := TX11) (N := 19) hB13 rfl (by decide) hg_r0 hK, fun U hU hW => ⟨rfl, hU, hh_14.2.1, hG.step hW hU hh_14.1, va_K.moved hW.alike hK2, jK5.moved hW.alike hK5, jK6.moved hW.alike hK6, (hK7.step hW hU hh_14.1), hg_r0, hg_bo, hg_pa, hg_ou, hg_js, hg_wk, hg_wi, hg_wz, hg_jkf, hg_jks, hg_fm, hg_op, (hh_14.2.2.1.sub (L1 := [(r0, 13, 4, .ref bo), (bo, 2, 1, .int pc), (bo, 2, 0, .ref pa), (r0, 13, 3, .ref ou), (r0, 13, 2, .ref js), (js, 6, 7, .int pv), (js, 6, 8, .int pu), (js, 6, 0, .ref wk), (js, 6, 1, .ref wi), (js, 6, 2, .ref wz), (js, 6, 4, .ref jkf), (js, 6, 5, .ref jks), (r0, 13, 1, .ref fm), (fm, 4, 1, .int fl), (r0, 13, 7, .ref op), (op, 1, 2, .int sz)]) [1, 2, 3, 4, 5, 6, 7, 8, 9, 10, 11, 12, 13, 14, 15, 16] rfl), (hh_14.2.2.2.2.2.2.2.1.sub (L1 := [(wk, 140, 1502, ca 1, fk), (wi, 141, 1502, ca 1, fi), (wz, 142, 1502, ca 1, fz), (jkf, 144, 1502, ca 1, fa), (jks, 145, 1502, ca 1, fs)]) [0, 1, 2, 3, 4] rfl), (hh_14.2.2.2.2.2.2.2.2.sub (L1 := [(jFy, jYb dC dI G0), (jFl, jLs dC dI ca G0 3 none), (jFdo, jDcc dC dI ca G0 none ph)]) [1, 2, 3] rfl), (by omega), (by omega), ⟨(by first | (with_reducible assumption) | omega | rfl | fail), (by first | (with_reducible assumption) | omega | rfl | fail), (by first | (with_reducible assumption) | omega | rfl | fail), (by first | (with_reducible assumption) | omega | rfl | fail), (by first | assumption | fail | omega), (by first | (with_reducible assumption) | omega | rfl | fail), (by first | (with_reducible assumption) | omega | rfl | fail), (by first | (with_reducible assumption) | omega | rfl | fail), (by first | (with_reducible assumption) | omega | rfl | fail), (by first | assumption | fail | omega), (by first | assumption | fail | omega), (by first | assumption | fail | omega), (by first | (with_reducible assumption) | omega | rfl | fail), (by first | (with_reducible assumption) | omega | rfl | fail), (by first | (with_reducible assumption) | omega | rfl | fail)⟩⟩⟩ rfl rfl hl.1 rfl (lv_room (Nat.le_of_ble_eq_true rfl)) dX11_notification_82 ⟨by rw [hRc]; omega, by rw [hRs]; omega⟩) hh_14.1 (fun q _ h => h) (fun q h => h) (fun u_61 t_61 H_61 locs_61 ht_61 hvm_61 hr_62 hb_61 hz_61 hk_61 hS_61 => ?_)
          obtain ⟨qc_61, qa_61, m_qa_61, qph_61, G_61⟩ := u_61
          rw [ht_61] at hb_61
          simp only at hb_61
          obtain ⟨⟨hb_611, hb_612, hb_613, hb_614, hb_615, hb_616⟩, hgq_61_0, hN_61, hbO_61, hbE_61⟩ := hb_61
          have hE9_61 := hN_61
          have hY_61 := hN_61
          have hN_61 : (jNk [0, 1, 4, 5, 6, 7, 8, 9, 11, 12, 13, 14, 15, 16]) G0 G_61 := hN_61.sub (by decide)
          have hh_61 : jSt (dC, dI) B base G0 G_61 EX11_notification s.heap (0 + ((m_qa_61 - n_pa) / 16 + ((ph) + 200 * (fl.toInt : Int).toNat - qph_61) / 16)) (0 + (2 * (m_qa_61 - n_pa) + ((ph) + 200 * (fl.toInt : Int).toNat - qph_61))) [(bo, 2, 1, .int qc_61), (bo, 2, 0, .ref qa_61), (r0, 13, 11, .int phase_9), (r0, 13, 4, .ref bo), (r0, 13, 3, .ref ou), (r0, 13, 2, .ref js), (js, 6, 7, .int pv), (js, 6, 8, .int pu), (js, 6, 0, .ref wk), (js, 6, 1, .ref wi), (js, 6, 2, .ref wz), (js, 6, 4, .ref jkf), (js, 6, 5, .ref jks), (r0, 13, 1, .ref fm), (fm, 4, 1, .int fl), (r0, 13, 7, .ref op)] [(wk, 140, 1502, ca 1, fk), (wi, 141, 1502, ca 1, fi), (wz, 142, 1502, ca 1, fz), (jkf, 144, 1502, ca 1, fa), (jks, 145, 1502, ca 1, fs)] [] H_61 locs_61 := (hh_14.callG hb_611 hb_612 hb_613 hb_614 hb_615 hS_61 rfl (L1 := [(r0, 13, 11, .int phase_9), (r0, 13, 4, .ref bo), (r0, 13, 3, .ref ou), (r0, 13, 2, .ref js), (js, 6, 7, .int pv), (js, 6, 8, .int pu), (js, 6, 0, .ref wk), (js, 6, 1, .ref wi), (js, 6, 2, .ref wz), (js, 6, 4, .ref jkf), (js, 6, 5, .ref jks), (r0, 13, 1, .ref fm), (fm, 4, 1, .int fl), (r0, 13, 7, .ref op)]) [0, 1, 4, 5, 6, 7, 8, 9, 10, 11, 12, 13, 14, 15] rfl rfl (M1 := [(wk, 140, 1502, ca 1, fk), (wi, 141, 1502, ca 1, fi), (wz, 142, 1502, ca 1, fz), (jkf, 144, 1502, ca 1, fa), (jks, 145, 1502, ca 1, fs)]) [0, 1, 2, 3, 4] rfl rfl (I1 := []) [] rfl rfl).more hb_616
          have hNn_61 : (jNk [0, 1, 4, 5, 6, 7, 8, 9, 11, 12, 13, 14, 15, 16]) G0 G_61 := (jNk.rf).tr hN_61
          have hg_63 := hb_612 _ _ hg_r0
          have hg_64 := hb_612 _ _ hg_bo
          have hg_65 := hb_612 _ _ hg_ou
          have hg_66 := hb_612 _ _ hg_js
          have hg_67 := hb_612 _ _ hg_wk
          have hg_68 := hb_612 _ _ hg_wi
          have hg_69 := hb_612 _ _ hg_wz
          have hg_70 := hb_612 _ _ hg_jkf
          have hg_71 := hb_612 _ _ hg_jks
          have hg_72 := hb_612 _ _ hg_fm
          have hg_73 := hb_612 _ _ hg_op
          have hh_74 := hh_61.addIs hbE_61
          have hd_75 := jOl.trL (hh_14.iv 0 rfl) hh_14.2.2.2.2.1 hbO_61 (by simp)
          have hh_76 := hh_74.addI (jOl.ie (dC := dC) (dI := dI) (G0 := G0) (k := 2) (rs := [bo, ou]) (H0 := s.heap) (F := [(2, 0), (2, 1)]) (C := RX0) (T := TX0) (N := 2) rfl (by decide) hh_74.2.2.2.2.1 (hd_75))
          clear hh_74
          try simp only at hr_62
          obtain ⟨hr_62_0, hr_62_1, hr_62_2, hr_62_3, hr_62_4, hr_62_5⟩ := hr_62
          refine lv_goto (tgt := 127) hx hb dX11_notification_85 (by decide) ?_
          try clear hsz_61 htt_61 hrc_61 hrs_61
          have hsz_77 := hh_76.2.2.2.2.2.1
          have htt_77 := hh_76.2.2.2.2.2.2.1
          refine W.room (fun hrc_77 hrs_77 => ?_)
          refine W.widen (k := LC - s.heap.size) (n := LS - jTot s.heap) (by omega) (by omega) ?_
          rw [hQ]
          exact W.vret hx hb hr (fun t ht hW => ⟨⟨(qc_61, qa_61, m_qa_61, qph_61, G_61), rfl, by (try dsimp only); exact ⟨(by first | (with_reducible assumption) | omega | rfl | fail), (by first | (with_reducible assumption) | omega | rfl | fail), (by first | (with_reducible assumption) | omega | rfl | fail), (by first | (with_reducible assumption) | omega | rfl | fail), (by first | assumption | fail | omega), (by first | (with_reducible assumption) | omega | rfl | fail)⟩, ⟨hh_76.ra (by first | (simp only; omega) | omega) (by first | (simp only; omega) | omega) (M1 := [(bo, 2, 1, .int qc_61), (bo, 2, 0, .ref qa_61)]) [0, 1] rfl ht, hgq_61_0, hNn_61, by rw [ht]; exact hh_76.iv 0 rfl, by rw [ht]; exact hh_76.2.2.2.2.2.2.2.2.sub (L1 := [(jFy, jYb dC dI G_61), (jFl, jLs dC dI ca G_61 3 none), (jFdo, jDcc dC dI ca G_61 none qph_61)]) [1, 2, 3] rfl⟩⟩, by rw [ht]; try exact hh_76.1.1, fun q h9 hq => by rw [ht]; try exact hh_76.1.2.1 q h9 hq⟩) hh_76.1.2.2 dX11_notification_127
      · skip
        have c_13' : r_12.toInt ≠ 0 := jb_eq_n (rfl) ((by decide)) c_13
        first | (have hr_12pq := hr_12p.resolve_left (by omega); clear hr_12p) | (have hr_12pq := hr_12p.resolve_right (by omega); clear hr_12p) | try clear hr_12p
        first | (have hr_3_2q := hr_3_2.resolve_left (by omega); clear hr_3_2) | (have hr_3_2q := hr_3_2.resolve_right (by omega); clear hr_3_2) | skip
        have hmg := jMh.mg (m := r_3.toInt) hp11 (by omega) (by omega) (by omega) (by omega) (by omega : jSo fz r_3.toInt = 20)
        refine lv_aload_n hx hb dX11_notification_60 rfl (lv_at hl 1 rfl) ?_
        try clear hsz_11 htt_11 hrc_11 hrs_11
        have hsz_78 := hh_11.2.2.2.2.2.1
        have htt_78 := hh_11.2.2.2.2.2.2.1
        refine W.room (fun hrc_78 hrs_78 => ?_)
        refine va_callv (A0 := jA base) (H0 := s.heap) (va_runV (As := []) (rest := []) ⟨hx, hb, hml, hown, hts⟩ (uX11_openDocument l dC dI ca base B hB hAp hB1 hB2 hB3 hB4 hB6 hB7 hB8 hB10 hB11 hB12 hB13 hB101 hB102 hB132 hB133 hB140 hB141 hB142 hB143 hB144 hB145 hB146 hB171 hB172 hB196 hB210 hB221 hB222 hB293 G0 H_11 r0 bo pc pa n_pa ou js pv pu wk wi wz jkf jks fm fl op sz (ph) fk fi fz fa fs LC LS) (cwV 0 hts (jgV (jWr_35 _ (List.mem_of_getElem? (i := 11) rfl)) (jWr_35 _ (List.mem_of_getElem? (i := 12) rfl)) (jWr_35 _ (List.mem_of_getElem? (i := 13) rfl)) (jWr_1 _ (List.mem_of_getElem? (i := 2) rfl)) (jWr_35 _ (List.mem_of_getElem? (i := 14) rfl))) rfl rfl rfl (by decide +kernel) ⟨by rw [← hR]; exact Nat.le_of_ble_eq_true rfl, by rw [← hR]; exact Nat.le_of_ble_eq_true rfl⟩) ⟨fun a U g mk q => by obtain ⟨q0, q1, q2, qK, q10, q11, q12, q13, q14, q15, q16, q17, q18, q19, q20, q21, q22, q23, q24, q25, q26, q27, q28, q29⟩ := q; exact ⟨q0, q1, q2, jG.calling g mk a qK, (va_K.moved (Vm.Alike.refl U.vm) q10), (jK5.moved (Vm.Alike.refl U.vm) q11), (jK6.moved (Vm.Alike.refl U.vm) q12), (jK7.calling g mk a q13), q14, q15, q16, q17, q18, q19, q20, q21, q22, q23, q24, q25, q26, q27, q28, q29⟩, hh_11.recv (C := RX11) (T := TX11) (N := 19) hB13 rfl (by decide) hg_r0 hK, fun U hU hW => ⟨rfl, hU, hh_11.2.1, hG.step hW hU hh_11.1, va_K.moved hW.alike hK2, jK5.moved hW.alike hK5, jK6.moved hW.alike hK6, (hK7.step hW hU hh_11.1), hg_r0, hg_bo, hg_pa, hg_ou, hg_js, hg_wk, hg_wi, hg_wz, hg_jkf, hg_jks, hg_fm, hg_op, (hh_11.2.2.1.sub (L1 := [(r0, 13, 4, .ref bo), (bo, 2, 1, .int pc), (bo, 2, 0, .ref pa), (r0, 13, 3, .ref ou), (r0, 13, 2, .ref js), (js, 6, 7, .int pv), (js, 6, 8, .int pu), (js, 6, 0, .ref wk), (js, 6, 1, .ref wi), (js, 6, 2, .ref wz), (js, 6, 4, .ref jkf), (js, 6, 5, .ref jks), (r0, 13, 1, .ref fm), (fm, 4, 1, .int fl), (r0, 13, 7, .ref op), (op, 1, 2, .int sz)]) [1, 2, 3, 4, 5, 6, 7, 8, 9, 10, 11, 12, 13, 14, 15, 16] rfl), (hh_11.2.2.2.2.2.2.2.1.sub (L1 := [(wk, 140, 1502, ca 1, fk), (wi, 141, 1502, ca 1, fi), (wz, 142, 1502, ca 1, fz), (jkf, 144, 1502, ca 1, fa), (jks, 145, 1502, ca 1, fs)]) [0, 1, 2, 3, 4] rfl), (hh_11.2.2.2.2.2.2.2.2.sub (L1 := [(jFy, jYb dC dI G0), (jFl, jLs dC dI ca G0 3 none), (jFdo, jDcc dC dI ca G0 none ph)]) [1, 2, 3] rfl), (by omega), (by omega), ⟨(by first | (with_reducible assumption) | omega | rfl | fail), (by first | (with_reducible assumption) | omega | rfl | fail), (by first | (with_reducible assumption) | omega | rfl | fail), (by first | (with_reducible assumption) | omega | rfl | fail), (by first | assumption | fail | omega), (by first | (with_reducible assumption) | omega | rfl | fail), (by first | (with_reducible assumption) | omega | rfl | fail), (by first | (with_reducible assumption) | omega | rfl | fail), (by first | (with_reducible assumption) | omega | rfl | fail), (by first | assumption | fail | omega), (by first | assumption | fail | omega), (by first | assumption | fail | omega), (by first | (with_reducible assumption) | omega | rfl | fail), (by first | (with_reducible assumption) | omega | rfl | fail), (by first | (with_reducible assumption) | omega | rfl | fail)⟩⟩⟩ rfl rfl hl.1 rfl (lv_room (Nat.le_of_ble_eq_true rfl)) dX11_notification_61 ⟨by rw [hRc]; omega, by rw [hRs]; omega⟩) hh_11.1 (fun q _ h => h) (fun q h => h) (fun u_78 t_78 H_78 locs_78 ht_78 hvm_78 hr_79 hb_78 hz_78 hk_78 hS_78 => ?_)
        obtain ⟨qc_78, qa_78, m_qa_78, qph_78, G_78⟩ := u_78
        rw [ht_78] at hb_78
        simp only at hb_78
        obtain ⟨⟨hb_781, hb_782, hb_783, hb_784, hb_785, hb_786⟩, hgq_78_0, hN_78, hbO_78, hbE_78⟩ := hb_78
        have hY_78 := hN_78
        have hN_78 : (jNk [0, 1, 4, 5, 6, 7, 8, 9, 11, 12, 13, 14, 15, 16]) G0 G_78 := hN_78.sub (by decide)
        have hh_78 : jSt (dC, dI) B base G0 G_78 EX11_notification s.heap (0 + ((m_qa_78 - n_pa) / 16 + ((ph) + 200 * (fl.toInt : Int).toNat - qph_78) / 16)) (0 + (2 * (m_qa_78 - n_pa) + ((ph) + 200 * (fl.toInt : Int).toNat - qph_78))) [(bo, 2, 1, .int qc_78), (bo, 2, 0, .ref qa_78), (r0, 13, 11, .int phase_9), (r0, 13, 4, .ref bo), (r0, 13, 3, .ref ou), (r0, 13, 2, .ref js), (js, 6, 7, .int pv), (js, 6, 8, .int pu), (js, 6, 0, .ref wk), (js, 6, 1, .ref wi), (js, 6, 2, .ref wz), (js, 6, 4, .ref jkf), (js, 6, 5, .ref jks), (r0, 13, 1, .ref fm), (fm, 4, 1, .int fl), (r0, 13, 7, .ref op)] [(wk, 140, 1502, ca 1, fk), (wi, 141, 1502, ca 1, fi), (wz, 142, 1502, ca 1, fz), (jkf, 144, 1502, ca 1, fa), (jks, 145, 1502, ca 1, fs)] [] H_78 locs_78 := (hh_11.callG hb_781 hb_782 hb_783 hb_784 hb_785 hS_78 rfl (L1 := [(r0, 13, 11, .int phase_9), (r0, 13, 4, .ref bo), (r0, 13, 3, .ref ou), (r0, 13, 2, .ref js), (js, 6, 7, .int pv), (js, 6, 8, .int pu), (js, 6, 0, .ref wk), (js, 6, 1, .ref wi), (js, 6, 2, .ref wz), (js, 6, 4, .ref jkf), (js, 6, 5, .ref jks), (r0, 13, 1, .ref fm), (fm, 4, 1, .int fl), (r0, 13, 7, .ref op)]) [0, 1, 4, 5, 6, 7, 8, 9, 10, 11, 12, 13, 14, 15] rfl rfl (M1 := [(wk, 140, 1502, ca 1, fk), (wi, 141, 1502, ca 1, fi), (wz, 142, 1502, ca 1, fz), (jkf, 144, 1502, ca 1, fa), (jks, 145, 1502, ca 1, fs)]) [0, 1, 2, 3, 4] rfl rfl (I1 := []) [] rfl rfl).more hb_786
        have hNn_78 : (jNk [0, 1, 4, 5, 6, 7, 8, 9, 11, 12, 13, 14, 15, 16]) G0 G_78 := (jNk.rf).tr hN_78
        have hg_80 := hb_782 _ _ hg_r0
        have hg_81 := hb_782 _ _ hg_bo
        have hg_82 := hb_782 _ _ hg_ou
        have hg_83 := hb_782 _ _ hg_js
        have hg_84 := hb_782 _ _ hg_wk
        have hg_85 := hb_782 _ _ hg_wi
        have hg_86 := hb_782 _ _ hg_wz
        have hg_87 := hb_782 _ _ hg_jkf
        have hg_88 := hb_782 _ _ hg_jks
        have hg_89 := hb_782 _ _ hg_fm
        have hg_90 := hb_782 _ _ hg_op
        have hh_91 := hh_78.addIs hbE_78
        have hd_92 := jOl.trL (hh_11.iv 0 rfl) hh_11.2.2.2.2.1 hbO_78 (by simp)
        have hh_93 := hh_91.addI (jOl.ie (dC := dC) (dI := dI) (G0 := G0) (k := 2) (rs := [bo, ou]) (H0 := s.heap) (F := [(2, 0), (2, 1)]) (C := RX0) (T := TX0) (N := 2) rfl (by decide) hh_91.2.2.2.2.1 (hd_92))
        clear hh_91
        try simp only at hr_79
        obtain ⟨hr_79_0, hr_79_1, hr_79_2, hr_79_3, hr_79_4, hr_79_5⟩ := hr_79
        refine lv_goto (tgt := 127) hx hb dX11_notification_64 (by decide) ?_
        try clear hsz_78 htt_78 hrc_78 hrs_78
        have hsz_94 := hh_93.2.2.2.2.2.1
        have htt_94 := hh_93.2.2.2.2.2.2.1
        refine W.room (fun hrc_94 hrs_94 => ?_)
        refine W.widen (k := LC - s.heap.size) (n := LS - jTot s.heap) (by omega) (by omega) ?_
        rw [hQ]
        exact W.vret hx hb hr (fun t ht hW => ⟨⟨(qc_78, qa_78, m_qa_78, qph_78, G_78), rfl, by (try dsimp only); exact ⟨(by first | (with_reducible assumption) | omega | rfl | fail), (by first | (with_reducible assumption) | omega | rfl | fail), (by first | (with_reducible assumption) | omega | rfl | fail), (by first | (with_reducible assumption) | omega | rfl | fail), (by first | assumption | fail | omega), (by first | (with_reducible assumption) | omega | rfl | fail)⟩, ⟨hh_93.ra (by first | (simp only; omega) | omega) (by first | (simp only; omega) | omega) (M1 := [(bo, 2, 1, .int qc_78), (bo, 2, 0, .ref qa_78)]) [0, 1] rfl ht, hgq_78_0, hNn_78, by rw [ht]; exact hh_93.iv 0 rfl, by rw [ht]; exact hh_93.2.2.2.2.2.2.2.2.sub (L1 := [(jFy, jYb dC dI G_78), (jFl, jLs dC dI ca G_78 3 none), (jFdo, jDcc dC dI ca G_78 none qph_78)]) [1, 2, 3] rfl⟩⟩, by rw [ht]; try exact hh_93.1.1, fun q h9 hq => by rw [ht]; try exact hh_93.1.2.1 q h9 hq⟩) hh_93.1.2.2 dX11_notification_127
    · skip
      have c_10' : phase_9.toInt ≠ 1 := jb_eq_n (rfl) ((by decide)) c_10
      try clear hsz_4 htt_4 hrc_4 hrs_4
      have hsz_95 := hh_8.2.2.2.2.2.1
      have htt_95 := hh_8.2.2.2.2.2.2.1
      refine W.room (fun hrc_95 hrs_95 => ?_)
      refine W.widen (k := LC - s.heap.size) (n := LS - jTot s.heap) (by omega) (by omega) ?_
      rw [hQ]
      exact W.vret hx hb hr (fun t ht hW => ⟨⟨(pc, pa, n_pa, ph, G0), rfl, by (try dsimp only); exact ⟨(by first | (with_reducible assumption) | omega | rfl | fail), (by first | (with_reducible assumption) | omega | rfl | fail), (by first | (with_reducible assumption) | omega | rfl | fail), (by first | (with_reducible assumption) | omega | rfl | fail), (by first | assumption | fail | omega), (by first | (with_reducible assumption) | omega | rfl | fail)⟩, ⟨hh_8.ra (by first | (simp only; omega) | omega) (by first | (simp only; omega) | omega) (M1 := [(bo, 2, 1, .int pc), (bo, 2, 0, .ref pa)]) [2, 3] rfl ht, hg_pa, jNk.rf, by rw [ht]; exact hh_8.iv 0 rfl, by rw [ht]; exact hh_8.2.2.2.2.2.2.2.2.sub (L1 := [(jFy, jYb dC dI G0), (jFl, jLs dC dI ca G0 3 none), (jFdo, jDcc dC dI ca G0 none ph)]) [1, 2, 3] rfl⟩⟩, by rw [ht]; try exact hh_8.1.1, fun q h9 hq => by rw [ht]; try exact hh_8.1.2.1 q h9 hq⟩) hh_8.1.2.2 dX11_notification_45
  · skip
    have c_6' : r_5.toInt ≠ 0 := jb_eq_n (rfl) ((by decide)) c_6
    first | (have hr_5pq := hr_5p.resolve_left (by omega); clear hr_5p) | (have hr_5pq := hr_5p.resolve_right (by omega); clear hr_5p) | try clear hr_5p
    first | (have hr_3_2q := hr_3_2.resolve_left (by omega); clear hr_3_2) | (have hr_3_2q := hr_3_2.resolve_right (by omega); clear hr_3_2) | skip
    refine lv_aload_n hx hb dX11_notification_26 rfl (lv_at hl 1 rfl) ?_
    refine j7_read hx hb hown hK (C := RX11) (T := TX11) (N := 19) rfl hly_13_1 hlk_21 (hh_4.at 12 rfl) dX11_notification_27 ?_
    refine lv_iconst (v := 1) hx hb dX11_notification_30 (by decide) ?_
    refine j7_put hx hb hown hK hh_4 hB hAp hB4 (C := RX2) (T := TX2) (N := 12) rfl (by decide) hg_fm (i := 4) (by decide) hly_4_4 rfl hlk_102 rfl (ty := .boolean) (v := .int 1) (by decide +kernel) (jb_nz (Or.inr rfl)) (jb_fz (Or.inr rfl)) (⟨_, rfl, (Or.inr rfl)⟩) rfl (L1 := [(r0, 13, 4, .ref bo), (bo, 2, 1, .int pc), (bo, 2, 0, .ref pa), (r0, 13, 3, .ref ou), (r0, 13, 2, .ref js), (js, 6, 7, .int pv), (js, 6, 8, .int pu), (js, 6, 0, .ref wk), (js, 6, 1, .ref wi), (js, 6, 2, .ref wz), (js, 6, 4, .ref jkf), (js, 6, 5, .ref jks), (r0, 13, 1, .ref fm), (fm, 4, 1, .int fl), (r0, 13, 7, .ref op), (op, 1, 2, .int sz)]) [0, 1, 2, 3, 4, 5, 6, 7, 8, 9, 10, 11, 12, 13, 14, 15] rfl rfl rfl dX11_notification_31 (fun H_96 locs_96 hh_96 => ?_)
    clear hh_4
    refine lv_goto (tgt := 127) hx hb dX11_notification_34 (by decide) ?_
    try clear hsz_4 htt_4 hrc_4 hrs_4
    have hsz_97 := hh_96.2.2.2.2.2.1
    have htt_97 := hh_96.2.2.2.2.2.2.1
    refine W.room (fun hrc_97 hrs_97 => ?_)
    refine W.widen (k := LC - s.heap.size) (n := LS - jTot s.heap) (by omega) (by omega) ?_
    rw [hQ]
    exact W.vret hx hb hr (fun t ht hW => ⟨⟨(pc, pa, n_pa, ph, G0), rfl, by (try dsimp only); exact ⟨(by first | (with_reducible assumption) | omega | rfl | fail), (by first | (with_reducible assumption) | omega | rfl | fail), (by first | (with_reducible assumption) | omega | rfl | fail), (by first | (with_reducible assumption) | omega | rfl | fail), (by first | assumption | fail | omega), (by first | (with_reducible assumption) | omega | rfl | fail)⟩, ⟨hh_96.ra (by first | (simp only; omega) | omega) (by first | (simp only; omega) | omega) (M1 := [(bo, 2, 1, .int pc), (bo, 2, 0, .ref pa)]) [2, 3] rfl ht, hg_pa, jNk.rf, by rw [ht]; exact hh_96.iv 0 rfl, by rw [ht]; exact hh_96.2.2.2.2.2.2.2.2.sub (L1 := [(jFy, jYb dC dI G0), (jFl, jLs dC dI ca G0 3 none), (jFdo, jDcc dC dI ca G0 none ph)]) [1, 2, 3] rfl⟩⟩, by rw [ht]; try exact hh_96.1.1, fun q h9 hq => by rw [ht]; try exact hh_96.1.2.1 q h9 hq⟩) hh_96.1.2.2 dX11_notification_127
end
