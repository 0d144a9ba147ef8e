section
theorem dX11_notification_0 : decode cX11_notification 0 = .ok (.aload_n 0, 1) := by decide +kernel
theorem dX11_notification_1 : decode cX11_notification 1 = .ok (.getfield 28, 3) := by decide +kernel
theorem dX11_notification_4 : decode cX11_notification 4 = .ok (.iconst 0, 1) := by decide +kernel
theorem dX11_notification_5 : decode cX11_notification 5 = .ok (.ldc_w 281, 3) := by decide +kernel
theorem dX11_notification_8 : decode cX11_notification 8 = .ok (.invokevirtual 260, 3) := by decide +kernel
theorem dX11_notification_11 : decode cX11_notification 11 = .ok (.istore_n 1, 1) := by decide +kernel
theorem dX11_notification_12 : decode cX11_notification 12 = .ok (.aload_n 0, 1) := by decide +kernel
theorem dX11_notification_13 : decode cX11_notification 13 = .ok (.getfield 28, 3) := by decide +kernel
theorem dX11_notification_16 : decode cX11_notification 16 = .ok (.iload_n 1, 1) := by decide +kernel
theorem dX11_notification_17 : decode cX11_notification 17 = .ok (.ldc_w 322, 3) := by decide +kernel
theorem dX11_notification_20 : decode cX11_notification 20 = .ok (.invokevirtual 277, 3) := by decide +kernel
theorem dX11_notification_23 : decode cX11_notification 23 = .ok (.ifCond .eq 14, 3) := by decide +kernel
theorem dX11_notification_26 : decode cX11_notification 26 = .ok (.aload_n 0, 1) := by decide +kernel
theorem dX11_notification_27 : decode cX11_notification 27 = .ok (.getfield 21, 3) := by decide +kernel
theorem dX11_notification_30 : decode cX11_notification 30 = .ok (.iconst 1, 1) := by decide +kernel
theorem dX11_notification_31 : decode cX11_notification 31 = .ok (.putfield 102, 3) := by decide +kernel
theorem dX11_notification_34 : decode cX11_notification 34 = .ok (.goto 93, 3) := by decide +kernel
theorem dX11_notification_37 : decode cX11_notification 37 = .ok (.aload_n 0, 1) := by decide +kernel
theorem dX11_notification_38 : decode cX11_notification 38 = .ok (.getfield 77, 3) := by decide +kernel
theorem dX11_notification_41 : decode cX11_notification 41 = .ok (.iconst 1, 1) := by decide +kernel
theorem dX11_notification_42 : decode cX11_notification 42 = .ok (.if_icmp .eq 4, 3) := by decide +kernel
theorem dX11_notification_45 : decode cX11_notification 45 = .ok (.return_, 1) := by decide +kernel
theorem dX11_notification_46 : decode cX11_notification 46 = .ok (.aload_n 0, 1) := by decide +kernel
theorem dX11_notification_47 : decode cX11_notification 47 = .ok (.getfield 28, 3) := by decide +kernel
theorem dX11_notification_50 : decode cX11_notification 50 = .ok (.iload_n 1, 1) := by decide +kernel
theorem dX11_notification_51 : decode cX11_notification 51 = .ok (.ldc_w 324, 3) := by decide +kernel
theorem dX11_notification_54 : decode cX11_notification 54 = .ok (.invokevirtual 277, 3) := by decide +kernel
theorem dX11_notification_57 : decode cX11_notification 57 = .ok (.ifCond .eq 10, 3) := by decide +kernel
theorem dX11_notification_60 : decode cX11_notification 60 = .ok (.aload_n 0, 1) := by decide +kernel
theorem dX11_notification_61 : decode cX11_notification 61 = .ok (.invokevirtual 326, 3) := by decide +kernel
theorem dX11_notification_64 : decode cX11_notification 64 = .ok (.goto 63, 3) := by decide +kernel
theorem dX11_notification_67 : decode cX11_notification 67 = .ok (.aload_n 0, 1) := by decide +kernel
theorem dX11_notification_68 : decode cX11_notification 68 = .ok (.getfield 28, 3) := by decide +kernel
theorem dX11_notification_71 : decode cX11_notification 71 = .ok (.iload_n 1, 1) := by decide +kernel
theorem dX11_notification_72 : decode cX11_notification 72 = .ok (.ldc_w 329, 3) := by decide +kernel
theorem dX11_notification_75 : decode cX11_notification 75 = .ok (.invokevirtual 277, 3) := by decide +kernel
theorem dX11_notification_78 : decode cX11_notification 78 = .ok (.ifCond .eq 10, 3) := by decide +kernel
theorem dX11_notification_81 : decode cX11_notification 81 = .ok (.aload_n 0, 1) := by decide +kernel
theorem dX11_notification_82 : decode cX11_notification 82 = .ok (.invokevirtual 331, 3) := by decide +kernel
theorem dX11_notification_85 : decode cX11_notification 85 = .ok (.goto 42, 3) := by decide +kernel
theorem dX11_notification_88 : decode cX11_notification 88 = .ok (.aload_n 0, 1) := by decide +kernel
theorem dX11_notification_89 : decode cX11_notification 89 = .ok (.getfield 28, 3) := by decide +kernel
theorem dX11_notification_92 : decode cX11_notification 92 = .ok (.iload_n 1, 1) := by decide +kernel
theorem dX11_notification_93 : decode cX11_notification 93 = .ok (.ldc_w 334, 3) := by decide +kernel
theorem dX11_notification_96 : decode cX11_notification 96 = .ok (.invokevirtual 277, 3) := by decide +kernel
theorem dX11_notification_99 : decode cX11_notification 99 = .ok (.ifCond .eq 10, 3) := by decide +kernel
theorem dX11_notification_102 : decode cX11_notification 102 = .ok (.aload_n 0, 1) := by decide +kernel
theorem dX11_notification_103 : decode cX11_notification 103 = .ok (.invokevirtual 336, 3) := by decide +kernel
theorem dX11_notification_106 : decode cX11_notification 106 = .ok (.goto 21, 3) := by decide +kernel
theorem dX11_notification_109 : decode cX11_notification 109 = .ok (.aload_n 0, 1) := by decide +kernel
theorem dX11_notification_110 : decode cX11_notification 110 = .ok (.getfield 28, 3) := by decide +kernel
theorem dX11_notification_113 : decode cX11_notification 113 = .ok (.iload_n 1, 1) := by decide +kernel
theorem dX11_notification_114 : decode cX11_notification 114 = .ok (.ldc_w 339, 3) := by decide +kernel
theorem dX11_notification_117 : decode cX11_notification 117 = .ok (.invokevirtual 277, 3) := by decide +kernel
theorem dX11_notification_120 : decode cX11_notification 120 = .ok (.ifCond .eq 7, 3) := by decide +kernel
theorem dX11_notification_123 : decode cX11_notification 123 = .ok (.aload_n 0, 1) := by decide +kernel
theorem dX11_notification_124 : decode cX11_notification 124 = .ok (.invokevirtual 341, 3) := by decide +kernel
theorem dX11_notification_127 : decode cX11_notification 127 = .ok (.return_, 1) := by decide +kernel
def EX11_notificationU : List (Nat × Nat) := [(1, 0), (1, 1), (1, 2), (2, 0), (2, 1), (3, 0), (3, 1), (3, 3), (3, 4), (3, 10), (3, 11), (3, 12), (3, 13), (3, 14), (3, 15), (3, 16), (4, 4), (8, 3), (12, 3), (13, 14), (101, 0), (102, 0), (132, 0), (133, 0), (171, 0), (172, 0), (173, 0), (196, 0), (212, 0), (221, 0), (222, 0), (223, 0), (293, 0)]
set_option maxHeartbeats 4000000 in
set_option maxRecDepth 20000 in
theorem uX11_notificationU (l : Launch) (dC : Nat → ClassId) (dI : Nat → Nat → Nat) (ca : Nat → ClassId) (base : Nat) (B : jF) (hB : jBok B) (hAp : jAp (dC, dI)) (hB1 : ∀ n G a H, B 1 n G a H ↔ jOb (dC, dI) 1 3 (F1 n G) a H) (hB2 : ∀ n G a H, B 2 n G a H ↔ jOb (dC, dI) 2 2 (F2 n G) a H) (hB3 : ∀ n G a H, B 3 n G a H ↔ jOb (dC, dI) 3 17 (F3 n G) a H) (hB4 : ∀ n G a H, B 4 n G a H ↔ jOb (dC, dI) 4 12 (F4 n G) a H) (hB6 : ∀ n G a H, B 6 n G a H ↔ jOb (dC, dI) 6 12 (F6 n G) a H) (hB7 : ∀ n G a H, B 7 n G a H ↔ jOb (dC, dI) 7 11 (F7 n G) a H) (hB8 : ∀ n G a H, B 8 n G a H ↔ jOb (dC, dI) 8 4 (F8 n G) a H) (hB10 : ∀ n G a H, B 10 n G a H ↔ jOb (dC, dI) 10 5 (F10 n G) a H) (hB11 : ∀ n G a H, B 11 n G a H ↔ jOb (dC, dI) 11 9 (F11 n G) a H) (hB12 : ∀ n G a H, B 12 n G a H ↔ jOb (dC, dI) 12 11 (F12b n G) a H) (hB13 : ∀ n G a H, B 13 n G a H ↔ jOb (dC, dI) 13 19 (F13 n G) a H) (hB101 : ∀ n G a H, B 101 n G a H ↔ jAr (dC, dI) (ca 1) (fun j z => True) n a H) (hB102 : ∀ n G a H, B 102 n G a H ↔ jAl (dC, dI) (ca 2) n a H) (hB132 : ∀ n G a H, B 132 n G a H ↔ jAr (dC, dI) (ca 1) (fun j z => 0 ≤ z.toInt ∧ z.toInt ≤ 10) n a H) (hB133 : ∀ n G a H, B 133 n G a H ↔ jAr (dC, dI) (ca 1) (fun j z => 0 ≤ z.toInt ∧ z.toInt ≤ 8192) n a H) (hB140 : ∀ n G a H, B 140 n G a H ↔ jAr (dC, dI) (ca 1) (fun j z => True) n a H) (hB141 : ∀ n G a H, B 141 n G a H ↔ jAr (dC, dI) (ca 1) (fun j z => True) n a H) (hB142 : ∀ n G a H, B 142 n G a H ↔ jAr (dC, dI) (ca 1) (fun j z => True) n a H) (hB143 : ∀ n G a H, B 143 n G a H ↔ jAr (dC, dI) (ca 1) (fun j z => True) n a H) (hB144 : ∀ n G a H, B 144 n G a H ↔ jAr (dC, dI) (ca 1) (fun j z => 0 ≤ z.toInt ∧ z.toInt ≤ 3000) n a H) (hB145 : ∀ n G a H, B 145 n G a H ↔ jAr (dC, dI) (ca 1) (fun j z => True) n a H) (hB146 : ∀ n G a H, B 146 n G a H ↔ jAr (dC, dI) (ca 1) (fun j z => True) n a H) (hB171 : ∀ n G a H, B 171 n G a H ↔ jAr (dC, dI) (ca 1) (fun j z => 0 ≤ z.toInt ∧ z.toInt ≤ 1500) n a H) (hB172 : ∀ n G a H, B 172 n G a H ↔ jAr (dC, dI) (ca 1) (fun j z => 0 ≤ z.toInt ∧ z.toInt ≤ 1500) n a H) (hB173 : ∀ n G a H, B 173 n G a H ↔ jAr (dC, dI) (ca 1) (fun j z => True) n a H) (hB174 : ∀ n G a H, B 174 n G a H ↔ jAr (dC, dI) (ca 1) (fun j z => True) n a H) (hB196 : ∀ n G a H, B 196 n G a H ↔ jAr (dC, dI) (ca 0) (fun j z => jBf j z) n a H) (hB210 : ∀ n G a H, B 210 n G a H ↔ jAq (dC, dI) (ca 6) (jQn 11 0) n G a H) (hB212 : ∀ n G a H, B 212 n G a H ↔ jAq (dC, dI) (ca 5) (jQn 3 0) n G a H) (hB221 : ∀ n G a H, B 221 n G a H ↔ jAq (dC, dI) (ca 9) (jQn 3 0) n G a H) (hB222 : ∀ n G a H, B 222 n G a H ↔ jAq (dC, dI) (ca 9) (jQn 10 0) n G a H) (hB293 : ∀ n G a H, B 293 n G a H ↔ jAr (dC, dI) (ca 1) (fun j z => -1 ≤ z.toInt ∧ z.toInt ≤ 8191) n a H) (G0 : jT) (H0 : Heap) (r0 : Nat) (bo : Nat) (pc : Int32) (pa : Nat) (n_pa : Nat) (ou : Nat) (fm : Nat) (fl : Int32) (op : Nat) (sz : Int32) (js : Nat) (pv : Int32) (pu : Int32) (wk : Nat) (wi : Nat) (wz : Nat) (jnx : Nat) (jkf : Nat) (jks : Nat) (jun : Nat) (sp : Nat) (n_sp : Nat) (pz : Int32) (br : Int32) (ph : Nat) (wl : jWl9) (T9 : Nat → Int → Int) (tq : jDtl) (fk : Nat → Int32) (fi : Nat → Int32) (fz : Nat → Int32) (fn : Nat → Int32) (fa : Nat → Int32) (fs : Nat → Int32) (fu : Nat → Int32) (LC LS : Nat) : Met l yX11_notification (jw yX11_notification cX11_notification 2 none) ({ frames := 9, cells := LC - H0.size, slots := LS - jTot H0, locals := 265 }) (va_Pc [.ref r0] (fun U => U.heap = H0 ∧ jX B base G0 [] H0 ∧ jG dC dI ca base U ∧ jK2 dC dI ca U ∧ jK5 dC dI ca U ∧ jK6 U ∧ jK7 dC dI ca base U ∧ G0 r0 = some (13, 0) ∧ G0 bo = some (2, 0) ∧ G0 pa = some (196, n_pa) ∧ G0 ou = some (2, 20000) ∧ G0 fm = some (4, 0) ∧ G0 op = some (1, 1) ∧ G0 js = some (6, 0) ∧ G0 wk = some (140, 1502) ∧ G0 wi = some (141, 1502) ∧ G0 wz = some (142, 1502) ∧ G0 jnx = some (143, 1502) ∧ G0 jkf = some (144, 1502) ∧ G0 jks = some (145, 1502) ∧ G0 jun = some (146, 3000) ∧ G0 sp = some (3, n_sp) ∧ jP (dC, dI) G0 H0 [(r0, 13, 4, .ref bo), (bo, 2, 1, .int pc), (bo, 2, 0, .ref pa), (r0, 13, 3, .ref ou), (r0, 13, 1, .ref fm), (fm, 4, 1, .int fl), (r0, 13, 7, .ref op), (op, 1, 2, .int sz), (r0, 13, 2, .ref js), (js, 6, 7, .int pv), (js, 6, 8, .int pu), (js, 6, 0, .ref wk), (js, 6, 1, .ref wi), (js, 6, 2, .ref wz), (js, 6, 3, .ref jnx), (js, 6, 4, .ref jkf), (js, 6, 5, .ref jks), (js, 6, 6, .ref jun), (r0, 13, 15, .ref sp), (r0, 13, 11, .int pz), (fm, 4, 4, .int br)] ∧ jMc (dC, dI) G0 H0 [(wk, 140, 1502, ca 1, fk), (wi, 141, 1502, ca 1, fi), (wz, 142, 1502, ca 1, fz), (jnx, 143, 1502, ca 1, fn), (jkf, 144, 1502, ca 1, fa), (jks, 145, 1502, ca 1, fs), (jun, 146, 3000, ca 1, fu)] ∧ jIs (dC, dI) G0 H0 [(jFy, jYb dC dI G0), (jFl, jLs dC dI ca G0 3 none wl), (jFdo, jDcc dC dI ca G0 none ph), (jFcd, jCD dC dI ca G0 none tq)] ∧ H0.size + (1048576 - n_pa) / 16 + 1 + (ph + 200 * fl.toInt.toNat) / 16 ≤ LC ∧ jTot H0 + 2 * (1048576 - n_pa) + ph + 200 * fl.toInt.toNat ≤ LS ∧ 0 ≤ pc.toInt ∧ pc.toInt ≤ n_pa ∧ 16 ≤ n_pa ∧ n_pa ≤ 1048576 ∧ jPw n_pa ∧ 0 ≤ pv.toInt ∧ pv.toInt ≤ 1502 ∧ 0 ≤ pu.toInt ∧ pu.toInt ≤ 3000 ∧ jJq fk fi fz pv.toInt ∧ jJu fk fz pv.toInt pu.toInt ∧ jMh (fk, fi, fz, fa, fs) pv.toInt pu.toInt fl.toInt ∧ 0 ≤ fl.toInt ∧ 0 ≤ sz.toInt ∧ sz.toInt ≤ 40 ∧ jjTC T9 pv.toInt pu.toInt fk fi fz fn fa fs fu ∧ jqR fk fi fz fa fs pv.toInt pu.toInt ∧ jjCo T9 0 pv.toInt ∧ 0 ≤ pz.toInt ∧ pz.toInt ≤ 2 ∧ 0 ≤ br.toInt ∧ br.toInt ≤ 1 ∧ jdIv tq wl ∧ n_sp = 1)) (va_Qv (S := Int32 × Int32 × Nat × Nat × Nat × jWl9 × jDtl × jT) (fun u => 0 ≤ u.1.toInt ∧ u.1.toInt ≤ u.2.2.2.1 ∧ n_pa ≤ u.2.2.2.1 ∧ u.2.2.2.1 ≤ 1048576 ∧ jPw u.2.2.2.1 ∧ u.2.2.2.2.1 ≤ ph + 200 * fl.toInt ∧ jdIv u.2.2.2.2.2.2.1 u.2.2.2.2.2.1 ∧ jdNt T9 pv.toInt pz.toInt br.toInt u.2.1.toInt (jdCs tq wl) (jdCs u.2.2.2.2.2.2.1 u.2.2.2.2.2.1)) (fun u t => jRa (dC, dI) B base G0 u.2.2.2.2.2.2.2 EX11_notificationU H0 ((u.2.2.2.1 - n_pa) / 16 + (ph + 200 * fl.toInt.toNat - u.2.2.2.2.1) / 16) (2 * (u.2.2.2.1 - n_pa) + (ph + 200 * fl.toInt.toNat - u.2.2.2.2.1)) [(bo, 2, 1, .int u.1), (fm, 4, 4, .int u.2.1), (bo, 2, 0, .ref u.2.2.1)] t.heap ∧ u.2.2.2.2.2.2.2 u.2.2.1 = some (196, u.2.2.2.1) ∧ (jNk [0, 1, 4, 5, 6, 7, 8, 9, 11, 12, 13, 14, 15, 16]) G0 u.2.2.2.2.2.2.2 ∧ jOl (dC, dI) G0 2 [bo, ou] H0 t.heap ∧ jIs (dC, dI) u.2.2.2.2.2.2.2 t.heap [(jFy, jYb dC dI u.2.2.2.2.2.2.2), (jFl, jLs dC dI ca u.2.2.2.2.2.2.2 3 none (u.2.2.2.2.2.1)), (jFdo, jDcc dC dI ca u.2.2.2.2.2.2.2 none (u.2.2.2.2.1)), (jFcd, jCD dC dI ca u.2.2.2.2.2.2.2 none (u.2.2.2.2.2.2.1))]) (jA base)) (LC - H0.size) (LS - jTot H0) (jA base) := by
  refine Met.ofW (cc := cX11_notification) (maxL := 2) (ret := none) (by decide) rfl ?_
  intro p e s m args below meth c s₁ Bd hml hv
  obtain ⟨rfl, hH0, hX, hG, hK2, hK5, hK6, hK7, hg_r0, hg_bo, hg_pa, hg_ou, hg_fm, hg_op, hg_js, hg_wk, hg_wi, hg_wz, hg_jnx, hg_jkf, hg_jks, hg_jun, hg_sp, hP0, hM0, hI0, hLC0, hLS0, hp0, hp1, hp2, hp3, hp4, hp5, hp6, hp7, hp8, hp9, hp10, hp11, hp12, hp13, hp14, hp15, hp16, hp17, hp18, hp19, hp20, hp21, hp22, hp23⟩ := hv
  have hK := hG.1
  have hx := Bd.exec
  have hb := Bd.bytes
  have hr := Bd.returns
  have hts := atoms_spec (ws := (jw yX11_notification cX11_notification 2 none)) Bd.pre
  have htw : ∀ w ∈ jWl, w.before _ s = true := fun w h => hts w (List.mem_cons_of_mem _ h)
  have hown : s.vm.findClass RX11 = some m.cls := findClass_of_methodNamed Bd.named
  have hlocks := Bd.notSynchronized
  obtain ⟨Q, hQ⟩ : ∃ Q, Q = MQ below (va_Qv (S := Int32 × Int32 × Nat × Nat × Nat × jWl9 × jDtl × jT) (fun u => 0 ≤ u.1.toInt ∧ u.1.toInt ≤ u.2.2.2.1 ∧ n_pa ≤ u.2.2.2.1 ∧ u.2.2.2.1 ≤ 1048576 ∧ jPw u.2.2.2.1 ∧ u.2.2.2.2.1 ≤ ph + 200 * fl.toInt ∧ jdIv u.2.2.2.2.2.2.1 u.2.2.2.2.2.1 ∧ jdNt T9 pv.toInt pz.toInt br.toInt u.2.1.toInt (jdCs tq wl) (jdCs u.2.2.2.2.2.2.1 u.2.2.2.2.2.1)) (fun u t => jRa (dC, dI) B base G0 u.2.2.2.2.2.2.2 EX11_notificationU H0 ((u.2.2.2.1 - n_pa) / 16 + (ph + 200 * fl.toInt.toNat - u.2.2.2.2.1) / 16) (2 * (u.2.2.2.1 - n_pa) + (ph + 200 * fl.toInt.toNat - u.2.2.2.2.1)) [(bo, 2, 1, .int u.1), (fm, 4, 4, .int u.2.1), (bo, 2, 0, .ref u.2.2.1)] t.heap ∧ u.2.2.2.2.2.2.2 u.2.2.1 = some (196, u.2.2.2.1) ∧ (jNk [0, 1, 4, 5, 6, 7, 8, 9, 11, 12, 13, 14, 15, 16]) G0 u.2.2.2.2.2.2.2 ∧ jOl (dC, dI) G0 2 [bo, ou] H0 t.heap ∧ jIs (dC, dI) u.2.2.2.2.2.2.2 t.heap [(jFy, jYb dC dI u.2.2.2.2.2.2.2), (jFl, jLs dC dI ca u.2.2.2.2.2.2.2 3 none (u.2.2.2.2.2.1)), (jFdo, jDcc dC dI ca u.2.2.2.2.2.2.2 none (u.2.2.2.2.1)), (jFcd, jCD dC dI ca u.2.2.2.2.2.2.2 none (u.2.2.2.2.2.2.1))]) (jA base)) ([.ref r0] : List Value).toArray s (LC - H0.size) (LS - jTot H0) (jA base) := ⟨_, rfl⟩
  rw [← hQ]
  have hl := lv_entry ([.ref r0]) (n := 2) (Nat.le_of_ble_eq_true rfl)
  rw [lg_entry_eq]
  generalize (lg_sl ([.ref r0]) ++ List.replicate (2 - (lg_sl ([.ref r0])).length) Slot.unset).toArray = ls at hl ⊢
  have hl : lv_has ls 2 [(0, .ref r0)] := hl
  generalize hR : (headSpec (jw yX11_notification cX11_notification 2 none) ({ frames := 9, cells := LC - H0.size, slots := LS - jTot H0, locals := 265 })).room = R
  subst hH0
  have hh : jSt (dC, dI) B base G0 G0 EX11_notificationU s.heap 0 0 [(r0, 13, 4, .ref bo), (bo, 2, 1, .int pc), (bo, 2, 0, .ref pa), (r0, 13, 3, .ref ou), (r0, 13, 1, .ref fm), (fm, 4, 1, .int fl), (r0, 13, 7, .ref op), (op, 1, 2, .int sz), (r0, 13, 2, .ref js), (js, 6, 7, .int pv), (js, 6, 8, .int pu), (js, 6, 0, .ref wk), (js, 6, 1, .ref wi), (js, 6, 2, .ref wz), (js, 6, 3, .ref jnx), (js, 6, 4, .ref jkf), (js, 6, 5, .ref jks), (js, 6, 6, .ref jun), (r0, 13, 15, .ref sp), (r0, 13, 11, .int pz), (fm, 4, 4, .int br)] [(wk, 140, 1502, ca 1, fk), (wi, 141, 1502, ca 1, fi), (wz, 142, 1502, ca 1, fz), (jnx, 143, 1502, ca 1, fn), (jkf, 144, 1502, ca 1, fa), (jks, 145, 1502, ca 1, fs), (jun, 146, 3000, ca 1, fu)] [(jFy, jYb dC dI G0), (jFl, jLs dC dI ca G0 3 none wl), (jFdo, jDcc dC dI ca G0 none ph), (jFcd, jCD dC dI ca G0 none tq)] s.heap [] := jSt.start hX hP0 hM0 hI0
  clear hX hP0
  have hk0 : (0 : Int32).toInt = 0 := by decide
  have hk1 : (1 : Int32).toInt = 1 := by decide
  have hly_4_4 := htw (u_lay RX2 TX2 4) (jWc_wsX20 _ (u_in_lay (by decide)))
  have hly_13_1 := htw (u_lay RX11 TX11 1) (jWc_wsX110 _ (u_in_lay (by decide)))
  have hly_13_2 := htw (u_lay RX11 TX11 2) (jWc_wsX110 _ (u_in_lay (by decide)))
  have hly_13_11 := htw (u_lay RX11 TX11 11) (jWc_wsX110 _ (u_in_lay (by decide)))
  have hlk_28 := (htw (.fieldLink RX11 28 "ProofServer" "json" "LProofServer$Json;") (jWr_1 _ (List.mem_of_getElem? (i := 23) rfl)))
  obtain ⟨str281, rstr281, hstr2810⟩ := hG.strT (o := RX11) (k := 281) (tx := "method") (List.mem_of_getElem? (i := 859) (by decide +kernel))
  have hTstr281 : jStrF base str281 6 (jChT "method") s s.heap := hstr2810.F (by decide +kernel)
  have hstr281 : jStr base str281 6 s s.heap := hTstr281.str
  obtain ⟨str322, rstr322, hstr3220⟩ := hG.strT (o := RX11) (k := 322) (tx := "exit") (List.mem_of_getElem? (i := 1095) (by decide +kernel))
  have hTstr322 : jStrF base str322 4 (jChT "exit") s s.heap := hstr3220.F (by decide +kernel)
  have hstr322 : jStr base str322 4 s s.heap := hTstr322.str
  have hlk_21 := (htw (.fieldLink RX11 21 "ProofServer" "frames" "LProofServer$Frames;") (jWr_1 _ (List.mem_of_getElem? (i := 19) rfl)))
  have hlk_102 := (htw (.fieldLink RX11 102 "ProofServer$Frames" "broken" "Z") (jWr_17 _ (List.mem_of_getElem? (i := 8) rfl)))
  have hlk_77 := (htw (.fieldLink RX11 77 "ProofServer" "phase" "I") (jWr_2 _ (List.mem_of_getElem? (i := 19) rfl)))
  obtain ⟨str324, rstr324, hstr3240⟩ := hG.strT (o := RX11) (k := 324) (tx := "textDocument/didOpen") (List.mem_of_getElem? (i := 1096) (by decide +kernel))
  have hTstr324 : jStrF base str324 20 (jChT "textDocument/didOpen") s s.heap := hstr3240.F (by decide +kernel)
  have hstr324 : jStr base str324 20 s s.heap := hTstr324.str
  obtain ⟨str329, rstr329, hstr3290⟩ := hG.strT (o := RX11) (k := 329) (tx := "textDocument/didChange") (List.mem_of_getElem? (i := 1251) (by decide +kernel))
  have hTstr329 : jStrF base str329 22 (jChT "textDocument/didChange") s s.heap := hstr3290.F (by decide +kernel)
  have hstr329 : jStr base str329 22 s s.heap := hTstr329.str
  obtain ⟨str334, rstr334, hstr3340⟩ := hG.strT (o := RX11) (k := 334) (tx := "textDocument/didClose") (List.mem_of_getElem? (i := 1307) (by decide +kernel))
  have hTstr334 : jStrF base str334 21 (jChT "textDocument/didClose") s s.heap := hstr3340.F (by decide +kernel)
  have hstr334 : jStr base str334 21 s s.heap := hTstr334.str
  obtain ⟨str339, rstr339, hstr3390⟩ := hG.strT (o := RX11) (k := 339) (tx := "$/cancelRequest") (List.mem_of_getElem? (i := 1316) (by decide +kernel))
  have hTstr339 : jStrF base str339 15 (jChT "$/cancelRequest") s s.heap := hstr3390.F (by decide +kernel)
  have hstr339 : jStr base str339 15 s s.heap := hTstr339.str
  have hbs : base ≤ s.heap.size := Nat.le_of_lt (Nat.lt_of_le_of_lt (hh.ab hg_r0).1 (hh.ab hg_r0).2)
  have hRc : R.cells = LC - s.heap.size := by rw [← hR]; rfl
  have hRs : R.slots = LS - jTot s.heap := by rw [← hR]; rfl
  have hh_1 := hh.addI (jOl.ie (dC := dC) (dI := dI) (G0 := G0) (k := 2) (rs := [bo, ou]) (H0 := s.heap) (F := [(2, 0), (2, 1)]) (C := RX0) (T := TX0) (N := 2) rfl (by decide) hh.2.2.2.2.1 (jOl.rf))
  clear hh
  have hpIV := hp22
  refine lv_aload_n hx hb dX11_notification_0 rfl (lv_at hl 0 rfl) ?_
  refine j7_read hx hb hown hK (C := RX11) (T := TX11) (N := 19) rfl hly_13_2 hlk_28 (hh_1.at 8 rfl) dX11_notification_1 ?_
  refine lv_iconst (v := 0) hx hb dX11_notification_4 (by decide) ?_
  refine j_ldcSw hx hb hown rstr281 dX11_notification_5 ?_
  have hsz_2 := hh_1.2.2.2.2.2.1
  have htt_2 := hh_1.2.2.2.2.2.2.1
  refine W.room (fun hrc_2 hrs_2 => ?_)
  refine va_calli (A0 := jA base) (H0 := s.heap) (va_runV (As := [.int 0, .ref str281]) (rest := []) ⟨hx, hb, hml, hown, hts⟩ (uX4_memberJ l dC dI ca base B hB hAp hB6 hB140 hB141 hB142 hB143 hB144 hB145 hB146 G0 s.heap js 0 str281 6 (jChT "method") pv pu wk wi wz jnx jkf jks jun T9 fk fi fz fn fa fs fu) (cwV 2 hts (jgV (jWr_23 _ (List.mem_of_getElem? (i := 10) rfl)) (jWr_23 _ (List.mem_of_getElem? (i := 11) rfl)) (jWr_23 _ (List.mem_of_getElem? (i := 12) rfl)) (jWr_1 _ (List.mem_of_getElem? (i := 22) rfl)) (jWr_23 _ (List.mem_of_getElem? (i := 13) rfl))) rfl rfl rfl (by decide +kernel) ⟨by rw [← hR]; exact Nat.le_of_ble_eq_true rfl, by rw [← hR]; exact Nat.le_of_ble_eq_true rfl⟩) ⟨fun a U g mk q => by obtain ⟨q0, q1, q2, qK, q10, q11, q12, q13, q14, q15, q16, q17, q18, q19, q20, q21⟩ := q; exact ⟨q0, q1, q2, jG.calling g mk a qK, (q10.moved (Vm.Alike.refl U.vm)), q11, q12, q13, q14, q15, q16, q17, q18, q19, q20, q21⟩, hh_1.recv (C := RX4) (T := TX4) (N := 12) hB6 rfl (by decide) hg_js hK, fun U hU hW => ⟨rfl, hU, hh_1.2.1, hG.step hW hU hh_1.1, (hTstr281.moved hW.alike).kept hh_1.1.2.1, hg_js, hg_wk, hg_wi, hg_wz, hg_jnx, hg_jkf, hg_jks, hg_jun, (hh_1.2.2.1.sub (L1 := [(js, 6, 7, .int pv), (js, 6, 8, .int pu), (js, 6, 0, .ref wk), (js, 6, 1, .ref wi), (js, 6, 2, .ref wz), (js, 6, 3, .ref jnx), (js, 6, 4, .ref jkf), (js, 6, 5, .ref jks), (js, 6, 6, .ref jun)]) [9, 10, 11, 12, 13, 14, 15, 16, 17] rfl), (hh_1.2.2.2.2.2.2.2.1.sub (L1 := [(wk, 140, 1502, ca 1, fk), (wi, 141, 1502, ca 1, fi), (wz, 142, 1502, ca 1, fz), (jnx, 143, 1502, ca 1, fn), (jkf, 144, 1502, ca 1, fa), (jks, 145, 1502, ca 1, fs), (jun, 146, 3000, ca 1, fu)]) [0, 1, 2, 3, 4, 5, 6] rfl), ⟨(by first | (with_reducible assumption) | omega | rfl | fail), (by first | (with_reducible assumption) | omega | rfl | fail), (by first | (with_reducible assumption) | omega | rfl | fail), (by first | (with_reducible assumption) | omega | rfl | fail), (by first | assumption | fail | omega), (by first | (with_reducible assumption) | omega | rfl | fail), (by first | assumption | fail | omega), (by first | assumption | fail | omega)⟩⟩⟩ rfl rfl hl.1 rfl (lv_room (Nat.le_of_ble_eq_true rfl)) dX11_notification_8 ⟨by rw [hRc]; show _ + 0 ≤ _; omega, by rw [hRs]; show _ + 0 ≤ _; omega⟩) hh_1.1 (fun q _ h => h) (fun q h => h) (fun r_3 u_2 t_2 H_2 locs_2 ht_2 hvm_2 hr_3 hb_2 hz_2 hk_2 hS_2 => ?_)
  rw [ht_2] at hb_2
  obtain ⟨hb_2, hbF_2⟩ := hb_2
  obtain ⟨hb_21, hb_22, hb_23, hb_24, hb_25⟩ := hb_2
  have hh_2 : jSt (dC, dI) B base G0 G0 EX11_notificationU s.heap 0 0 [(r0, 13, 4, .ref bo), (bo, 2, 1, .int pc), (bo, 2, 0, .ref pa), (r0, 13, 3, .ref ou), (r0, 13, 1, .ref fm), (fm, 4, 1, .int fl), (r0, 13, 7, .ref op), (op, 1, 2, .int sz), (r0, 13, 2, .ref js), (js, 6, 7, .int pv), (js, 6, 8, .int pu), (js, 6, 0, .ref wk), (js, 6, 1, .ref wi), (js, 6, 2, .ref wz), (js, 6, 3, .ref jnx), (js, 6, 4, .ref jkf), (js, 6, 5, .ref jks), (js, 6, 6, .ref jun), (r0, 13, 15, .ref sp), (r0, 13, 11, .int pz), (fm, 4, 4, .int br)] [(wk, 140, 1502, ca 1, fk), (wi, 141, 1502, ca 1, fi), (wz, 142, 1502, ca 1, fz), (jnx, 143, 1502, ca 1, fn), (jkf, 144, 1502, ca 1, fa), (jks, 145, 1502, ca 1, fs), (jun, 146, 3000, ca 1, fu)] [([(2, 0), (2, 1)], jOl (dC, dI) G0 2 [bo, ou] s.heap), (jFy, jYb dC dI G0), (jFl, jLs dC dI ca G0 3 none wl), (jFdo, jDcc dC dI ca G0 none ph), (jFcd, jCD dC dI ca G0 none tq)] H_2 locs_2 := ((hh_1.call hb_21 hb_22 hb_23 hb_24 hS_2 rfl (L1 := [(r0, 13, 4, .ref bo), (bo, 2, 1, .int pc), (bo, 2, 0, .ref pa), (r0, 13, 3, .ref ou), (r0, 13, 1, .ref fm), (fm, 4, 1, .int fl), (r0, 13, 7, .ref op), (op, 1, 2, .int sz), (r0, 13, 2, .ref js), (js, 6, 7, .int pv), (js, 6, 8, .int pu), (js, 6, 0, .ref wk), (js, 6, 1, .ref wi), (js, 6, 2, .ref wz), (js, 6, 3, .ref jnx), (js, 6, 4, .ref jkf), (js, 6, 5, .ref jks), (js, 6, 6, .ref jun), (r0, 13, 15, .ref sp), (r0, 13, 11, .int pz), (fm, 4, 4, .int br)]) [0, 1, 2, 3, 4, 5, 6, 7, 8, 9, 10, 11, 12, 13, 14, 15, 16, 17, 18, 19, 20] rfl rfl (M1 := [(wk, 140, 1502, ca 1, fk), (wi, 141, 1502, ca 1, fi), (wz, 142, 1502, ca 1, fz), (jnx, 143, 1502, ca 1, fn), (jkf, 144, 1502, ca 1, fa), (jks, 145, 1502, ca 1, fs), (jun, 146, 3000, ca 1, fu)]) [0, 1, 2, 3, 4, 5, 6] rfl rfl (I1 := [([(2, 0), (2, 1)], jOl (dC, dI) G0 2 [bo, ou] s.heap), (jFy, jYb dC dI G0), (jFl, jLs dC dI ca G0 3 none wl), (jFdo, jDcc dC dI ca G0 none ph), (jFcd, jCD dC dI ca G0 none tq)]) [0, 1, 2, 3, 4] rfl rfl).more hb_25)
  clear hh_1 ht_2 hvm_2 hz_2 hk_2 hS_2 hb_21 hb_22 hb_23 hb_24 hb_25
  obtain ⟨hr_3_0, hr_3_1, hr_3_2, hr_3_3⟩ := hr_3
  have hr_3_2o := jOr.of hr_3_2
  clear hr_3_2
  have hr_3_2 := hr_3_2o
  clear hr_3_2o
  refine lv_istore_n (lv' := [(1, .int r_3), (0, .ref r0)]) hx hb dX11_notification_11 rfl hl (by decide) rfl (fun ls hl => ?_)
  have hm9 : r_3.toInt = jdMe T9 pv.toInt := by have h9 := hr_3_3; rw [hk0] at h9; exact h9
  refine lv_aload_n hx hb dX11_notification_12 rfl (lv_at hl 1 rfl) ?_
  refine j7_read hx hb hown hK (C := RX11) (T := TX11) (N := 19) rfl hly_13_2 hlk_28 (hh_2.at 8 rfl) dX11_notification_13 ?_
  refine lv_iload_n hx hb dX11_notification_16 rfl (lv_at hl 0 rfl) ?_
  refine j_ldcSw hx hb hown rstr322 dX11_notification_17 ?_
  try clear hsz_2 htt_2 hrc_2 hrs_2
  have hsz_4 := hh_2.2.2.2.2.2.1
  have htt_4 := hh_2.2.2.2.2.2.2.1
  refine W.room (fun hrc_4 hrs_4 => ?_)
  refine va_calli (A0 := jA base) (H0 := s.heap) (va_runV (As := [.int r_3, .ref str322]) (rest := []) ⟨hx, hb, hml, hown, hts⟩ (uX4_isTextJ l dC dI ca base B hB hAp hB6 hB140 hB141 hB142 hB146 G0 H_2 js r_3 str322 4 (jChT "exit") pv pu wk wi wz jnx jkf jks jun T9 fk fi fz fn fa fs fu) (cwV 2 hts (jgV (jWr_27 _ (List.mem_of_getElem? (i := 1) rfl)) (jWr_27 _ (List.mem_of_getElem? (i := 2) rfl)) (jWr_27 _ (List.mem_of_getElem? (i := 3) rfl)) (jWr_1 _ (List.mem_of_getElem? (i := 22) rfl)) (jWr_27 _ (List.mem_of_getElem? (i := 4) rfl))) rfl rfl rfl (by decide +kernel) ⟨by rw [← hR]; exact Nat.le_of_ble_eq_true rfl, by rw [← hR]; exact Nat.le_of_ble_eq_true rfl⟩) ⟨fun a U g mk q => by obtain ⟨q0, q1, q2, qK, q10, q11, q12, q13, q14, q15, q16, q17, q18, q19, q20, q21⟩ := q; exact ⟨q0, q1, q2, jG.calling g mk a qK, (q10.moved (Vm.Alike.refl U.vm)), q11, q12, q13, q14, q15, q16, q17, q18, q19, q20, q21⟩, hh_2.recv (C := RX4) (T := TX4) (N := 12) hB6 rfl (by decide) hg_js hK, fun U hU hW => ⟨rfl, hU, hh_2.2.1, hG.step hW hU hh_2.1, (hTstr322.moved hW.alike).kept hh_2.1.2.1, hg_js, hg_wk, hg_wi, hg_wz, hg_jnx, hg_jkf, hg_jks, hg_jun, (hh_2.2.2.1.sub (L1 := [(js, 6, 7, .int pv), (js, 6, 8, .int pu), (js, 6, 0, .ref wk), (js, 6, 1, .ref wi), (js, 6, 2, .ref wz), (js, 6, 3, .ref jnx), (js, 6, 4, .ref jkf), (js, 6, 5, .ref jks), (js, 6, 6, .ref jun)]) [9, 10, 11, 12, 13, 14, 15, 16, 17] rfl), (hh_2.2.2.2.2.2.2.2.1.sub (L1 := [(wk, 140, 1502, ca 1, fk), (wi, 141, 1502, ca 1, fi), (wz, 142, 1502, ca 1, fz), (jnx, 143, 1502, ca 1, fn), (jkf, 144, 1502, ca 1, fa), (jks, 145, 1502, ca 1, fs), (jun, 146, 3000, ca 1, fu)]) [0, 1, 2, 3, 4, 5, 6] rfl), ⟨(by first | (with_reducible assumption) | omega | rfl | fail), (by first | (with_reducible assumption) | omega | rfl | fail), (by first | (with_reducible assumption) | omega | rfl | fail), (by first | (with_reducible assumption) | omega | rfl | fail), (by first | assumption | fail | omega), (by first | (with_reducible assumption) | omega | rfl | fail), (by first | assumption | fail | omega)⟩⟩⟩ rfl rfl hl.1 rfl (lv_room (Nat.le_of_ble_eq_true rfl)) dX11_notification_20 ⟨by rw [hRc]; show _ + 0 ≤ _; omega, by rw [hRs]; show _ + 0 ≤ _; omega⟩) hh_2.1 (fun q _ h => h) (fun q h => h) (fun r_5 u_4 t_4 H_4 locs_4 ht_4 hvm_4 hr_5 hb_4 hz_4 hk_4 hS_4 => ?_)
  rw [ht_4] at hb_4
  obtain ⟨hb_4, hbF_4⟩ := hb_4
  obtain ⟨hb_41, hb_42, hb_43, hb_44, hb_45⟩ := hb_4
  have hh_4 : jSt (dC, dI) B base G0 G0 EX11_notificationU s.heap 0 0 [(r0, 13, 4, .ref bo), (bo, 2, 1, .int pc), (bo, 2, 0, .ref pa), (r0, 13, 3, .ref ou), (r0, 13, 1, .ref fm), (fm, 4, 1, .int fl), (r0, 13, 7, .ref op), (op, 1, 2, .int sz), (r0, 13, 2, .ref js), (js, 6, 7, .int pv), (js, 6, 8, .int pu), (js, 6, 0, .ref wk), (js, 6, 1, .ref wi), (js, 6, 2, .ref wz), (js, 6, 3, .ref jnx), (js, 6, 4, .ref jkf), (js, 6, 5, .ref jks), (js, 6, 6, .ref jun), (r0, 13, 15, .ref sp), (r0, 13, 11, .int pz), (fm, 4, 4, .int br)] [(wk, 140, 1502, ca 1, fk), (wi, 141, 1502, ca 1, fi), (wz, 142, 1502, ca 1, fz), (jnx, 143, 1502, ca 1, fn), (jkf, 144, 1502, ca 1, fa), (jks, 145, 1502, ca 1, fs), (jun, 146, 3000, ca 1, fu)] [([(2, 0), (2, 1)], jOl (dC, dI) G0 2 [bo, ou] s.heap), (jFy, jYb dC dI G0), (jFl, jLs dC dI ca G0 3 none wl), (jFdo, jDcc dC dI ca G0 none ph), (jFcd, jCD dC dI ca G0 none tq)] H_4 locs_4 := ((hh_2.call hb_41 hb_42 hb_43 hb_44 hS_4 rfl (L1 := [(r0, 13, 4, .ref bo), (bo, 2, 1, .int pc), (bo, 2, 0, .ref pa), (r0, 13, 3, .ref ou), (r0, 13, 1, .ref fm), (fm, 4, 1, .int fl), (r0, 13, 7, .ref op), (op, 1, 2, .int sz), (r0, 13, 2, .ref js), (js, 6, 7, .int pv), (js, 6, 8, .int pu), (js, 6, 0, .ref wk), (js, 6, 1, .ref wi), (js, 6, 2, .ref wz), (js, 6, 3, .ref jnx), (js, 6, 4, .ref jkf), (js, 6, 5, .ref jks), (js, 6, 6, .ref jun), (r0, 13, 15, .ref sp), (r0, 13, 11, .int pz), (fm, 4, 4, .int br)]) [0, 1, 2, 3, 4, 5, 6, 7, 8, 9, 10, 11, 12, 13, 14, 15, 16, 17, 18, 19, 20] rfl rfl (M1 := [(wk, 140, 1502, ca 1, fk), (wi, 141, 1502, ca 1, fi), (wz, 142, 1502, ca 1, fz), (jnx, 143, 1502, ca 1, fn), (jkf, 144, 1502, ca 1, fa), (jks, 145, 1502, ca 1, fs), (jun, 146, 3000, ca 1, fu)]) [0, 1, 2, 3, 4, 5, 6] rfl rfl (I1 := [([(2, 0), (2, 1)], jOl (dC, dI) G0 2 [bo, ou] s.heap), (jFy, jYb dC dI G0), (jFl, jLs dC dI ca G0 3 none wl), (jFdo, jDcc dC dI ca G0 none ph), (jFcd, jCD dC dI ca G0 none tq)]) [0, 1, 2, 3, 4] rfl rfl).more hb_45)
  clear hh_2 ht_4 hvm_4 hz_4 hk_4 hS_4 hb_41 hb_42 hb_43 hb_44 hb_45
  obtain ⟨hr_5b, hr_5p⟩ := hr_5
  obtain ⟨hr_5p_0, hr_5p_1⟩ := hr_5p
  have hr_5p_0o := jOr.of hr_5p_0
  clear hr_5p_0
  have hr_5p_0 := hr_5p_0o
  clear hr_5p_0o
  have hr_5' := jb_01 hr_5b
  refine lv_if_eq (tgt := 37) hx hb dX11_notification_23 (by decide) (fun c_6 => ?_) (fun c_6 => ?_)
  · skip
    have c_6' : r_5.toInt = 0 := jb_eq (rfl) ((by decide)) c_6
    first | (have hr_5p_0q := hr_5p_0.resolve_left (by omega); clear hr_5p_0) | (have hr_5p_0q := hr_5p_0.resolve_right (by omega); clear hr_5p_0) | try clear hr_5p_0
    first | (have hr_3_2q := hr_3_2.resolve_left (by omega); clear hr_3_2) | (have hr_3_2q := hr_3_2.resolve_right (by omega); clear hr_3_2) | skip
    refine lv_aload_n hx hb dX11_notification_37 rfl (lv_at hl 1 rfl) ?_
    refine j7_read hx hb hown hK (C := RX11) (T := TX11) (N := 19) rfl hly_13_11 hlk_77 (hh_4.at 19 rfl) dX11_notification_38 ?_
    refine lv_iconst (v := 1) hx hb dX11_notification_41 (by decide) ?_
    refine lv_icmp_eq (tgt := 46) hx hb dX11_notification_42 (by decide) (fun c_7 => ?_) (fun c_7 => ?_)
    · skip
      have c_7' : pz.toInt = 1 := jb_eq (rfl) ((by decide)) c_7
      refine lv_aload_n hx hb dX11_notification_46 rfl (lv_at hl 1 rfl) ?_
      refine j7_read hx hb hown hK (C := RX11) (T := TX11) (N := 19) rfl hly_13_2 hlk_28 (hh_4.at 8 rfl) dX11_notification_47 ?_
      refine lv_iload_n hx hb dX11_notification_50 rfl (lv_at hl 0 rfl) ?_
      refine j_ldcSw hx hb hown rstr324 dX11_notification_51 ?_
      try clear hsz_4 htt_4 hrc_4 hrs_4
      have hsz_8 := hh_4.2.2.2.2.2.1
      have htt_8 := hh_4.2.2.2.2.2.2.1
      refine W.room (fun hrc_8 hrs_8 => ?_)
      refine va_calli (A0 := jA base) (H0 := s.heap) (va_runV (As := [.int r_3, .ref str324]) (rest := []) ⟨hx, hb, hml, hown, hts⟩ (uX4_isTextJ l dC dI ca base B hB hAp hB6 hB140 hB141 hB142 hB146 G0 H_4 js r_3 str324 20 (jChT "textDocument/didOpen") pv pu wk wi wz jnx jkf jks jun T9 fk fi fz fn fa fs fu) (cwV 2 hts (jgV (jWr_27 _ (List.mem_of_getElem? (i := 1) rfl)) (jWr_27 _ (List.mem_of_getElem? (i := 2) rfl)) (jWr_27 _ (List.mem_of_getElem? (i := 3) rfl)) (jWr_1 _ (List.mem_of_getElem? (i := 22) rfl)) (jWr_27 _ (List.mem_of_getElem? (i := 4) rfl))) rfl rfl rfl (by decide +kernel) ⟨by rw [← hR]; exact Nat.le_of_ble_eq_true rfl, by rw [← hR]; exact Nat.le_of_ble_eq_true rfl⟩) ⟨fun a U g mk q => by obtain ⟨q0, q1, q2, qK, q10, q11, q12, q13, q14, q15, q16, q17, q18, q19, q20, q21⟩ := q; exact ⟨q0, q1, q2, jG.calling g mk a qK, (q10.moved (Vm.Alike.refl U.vm)), q11, q12, q13, q14, q15, q16, q17, q18, q19, q20, q21⟩, hh_4.recv (C := RX4) (T := TX4) (N := 12) hB6 rfl (by decide) hg_js hK, fun U hU hW => ⟨rfl, hU, hh_4.2.1, hG.step hW hU hh_4.1, (hTstr324.moved hW.alike).kept hh_4.1.2.1, hg_js, hg_wk, hg_wi, hg_wz, hg_jnx, hg_jkf, hg_jks, hg_jun, (hh_4.2.2.1.sub (L1 := [(js, 6, 7, .int pv), (js, 6, 8, .int pu), (js, 6, 0, .ref wk), (js, 6, 1, .ref wi), (js, 6, 2, .ref wz), (js, 6, 3, .ref jnx), (js, 6, 4, .ref jkf), (js, 6, 5, .ref jks), (js, 6, 6, .ref jun)]) [9, 10, 11, 12, 13, 14, 15, 16, 17] rfl), (hh_4.2.2.2.2.2.2.2.1.sub (L1 := [(wk, 140, 1502, ca 1, fk), (wi, 141, 1502, ca 1, fi), (wz, 142, 1502, ca 1, fz), (jnx, 143, 1502, ca 1, fn), (jkf, 144, 1502, ca 1, fa), (jks, 145, 1502, ca 1, fs), (jun, 146, 3000, ca 1, fu)]) [0, 1, 2, 3, 4, 5, 6] rfl), ⟨(by first | (with_reducible assumption) | omega | rfl | fail), (by first | (with_reducible assumption) | omega | rfl | fail), (by first | (with_reducible assumption) | omega | rfl | fail), (by first | (with_reducible assumption) | omega | rfl | fail), (by first | assumption | fail | omega), (by first | (with_reducible assumption) | omega | rfl | fail), (by first | assumption | fail | omega)⟩⟩⟩ rfl rfl hl.1 rfl (lv_room (Nat.le_of_ble_eq_true rfl)) dX11_notification_54 ⟨by rw [hRc]; show _ + 0 ≤ _; omega, by rw [hRs]; show _ + 0 ≤ _; omega⟩) hh_4.1 (fun q _ h => h) (fun q h => h) (fun r_9 u_8 t_8 H_8 locs_8 ht_8 hvm_8 hr_9 hb_8 hz_8 hk_8 hS_8 => ?_)
      rw [ht_8] at hb_8
      obtain ⟨hb_8, hbF_8⟩ := hb_8
      obtain ⟨hb_81, hb_82, hb_83, hb_84, hb_85⟩ := hb_8
      have hh_8 : jSt (dC, dI) B base G0 G0 EX11_notificationU s.heap 0 0 [(r0, 13, 4, .ref bo), (bo, 2, 1, .int pc), (bo, 2, 0, .ref pa), (r0, 13, 3, .ref ou), (r0, 13, 1, .ref fm), (fm, 4, 1, .int fl), (r0, 13, 7, .ref op), (op, 1, 2, .int sz), (r0, 13, 2, .ref js), (js, 6, 7, .int pv), (js, 6, 8, .int pu), (js, 6, 0, .ref wk), (js, 6, 1, .ref wi), (js, 6, 2, .ref wz), (js, 6, 3, .ref jnx), (js, 6, 4, .ref jkf), (js, 6, 5, .ref jks), (js, 6, 6, .ref jun), (r0, 13, 15, .ref sp), (r0, 13, 11, .int pz), (fm, 4, 4, .int br)] [(wk, 140, 1502, ca 1, fk), (wi, 141, 1502, ca 1, fi), (wz, 142, 1502, ca 1, fz), (jnx, 143, 1502, ca 1, fn), (jkf, 144, 1502, ca 1, fa), (jks, 145, 1502, ca 1, fs), (jun, 146, 3000, ca 1, fu)] [([(2, 0), (2, 1)], jOl (dC, dI) G0 2 [bo, ou] s.heap), (jFy, jYb dC dI G0), (jFl, jLs dC dI ca G0 3 none wl), (jFdo, jDcc dC dI ca G0 none ph), (jFcd, jCD dC dI ca G0 none tq)] H_8 locs_8 := ((hh_4.call hb_81 hb_82 hb_83 hb_84 hS_8 rfl (L1 := [(r0, 13, 4, .ref bo), (bo, 2, 1, .int pc), (bo, 2, 0, .ref pa), (r0, 13, 3, .ref ou), (r0, 13, 1, .ref fm), (fm, 4, 1, .int fl), (r0, 13, 7, .ref op), (op, 1, 2, .int sz), (r0, 13, 2, .ref js), (js, 6, 7, .int pv), (js, 6, 8, .int pu), (js, 6, 0, .ref wk), (js, 6, 1, .ref wi), (js, 6, 2, .ref wz), (js, 6, 3, .ref jnx), (js, 6, 4, .ref jkf), (js, 6, 5, .ref jks), (js, 6, 6, .ref jun), (r0, 13, 15, .ref sp), (r0, 13, 11, .int pz), (fm, 4, 4, .int br)]) [0, 1, 2, 3, 4, 5, 6, 7, 8, 9, 10, 11, 12, 13, 14, 15, 16, 17, 18, 19, 20] rfl rfl (M1 := [(wk, 140, 1502, ca 1, fk), (wi, 141, 1502, ca 1, fi), (wz, 142, 1502, ca 1, fz), (jnx, 143, 1502, ca 1, fn), (jkf, 144, 1502, ca 1, fa), (jks, 145, 1502, ca 1, fs), (jun, 146, 3000, ca 1, fu)]) [0, 1, 2, 3, 4, 5, 6] rfl rfl (I1 := [([(2, 0), (2, 1)], jOl (dC, dI) G0 2 [bo, ou] s.heap), (jFy, jYb dC dI G0), (jFl, jLs dC dI ca G0 3 none wl), (jFdo, jDcc dC dI ca G0 none ph), (jFcd, jCD dC dI ca G0 none tq)]) [0, 1, 2, 3, 4] rfl rfl).more hb_85)
      clear hh_4 ht_8 hvm_8 hz_8 hk_8 hS_8 hb_81 hb_82 hb_83 hb_84 hb_85
      obtain ⟨hr_9b, hr_9p⟩ := hr_9
      obtain ⟨hr_9p_0, hr_9p_1⟩ := hr_9p
      have hr_9p_0o := jOr.of hr_9p_0
      clear hr_9p_0
      have hr_9p_0 := hr_9p_0o
      clear hr_9p_0o
      have hr_9' := jb_01 hr_9b
      refine lv_if_eq (tgt := 67) hx hb dX11_notification_57 (by decide) (fun c_10 => ?_) (fun c_10 => ?_)
      · skip
        have c_10' : r_9.toInt = 0 := jb_eq (rfl) ((by decide)) c_10
        first | (have hr_9p_0q := hr_9p_0.resolve_left (by omega); clear hr_9p_0) | (have hr_9p_0q := hr_9p_0.resolve_right (by omega); clear hr_9p_0) | try clear hr_9p_0
        first | (have hr_3_2q := hr_3_2.resolve_left (by omega); clear hr_3_2) | (have hr_3_2q := hr_3_2.resolve_right (by omega); clear hr_3_2) | skip
        refine lv_aload_n hx hb dX11_notification_67 rfl (lv_at hl 1 rfl) ?_
        refine j7_read hx hb hown hK (C := RX11) (T := TX11) (N := 19) rfl hly_13_2 hlk_28 (hh_8.at 8 rfl) dX11_notification_68 ?_
        refine lv_iload_n hx hb dX11_notification_71 rfl (lv_at hl 0 rfl) ?_
        refine j_ldcSw hx hb hown rstr329 dX11_notification_72 ?_
        try clear hsz_8 htt_8 hrc_8 hrs_8
        have hsz_11 := hh_8.2.2.2.2.2.1
        have htt_11 := hh_8.2.2.2.2.2.2.1
        refine W.room (fun hrc_11 hrs_11 => ?_)
        refine va_calli (A0 := jA base) (H0 := s.heap) (va_runV (As := [.int r_3, .ref str329]) (rest := []) ⟨hx, hb, hml, hown, hts⟩ (uX4_isTextJ l dC dI ca base B hB hAp hB6 hB140 hB141 hB142 hB146 G0 H_8 js r_3 str329 22 (jChT "textDocument/didChange") pv pu wk wi wz jnx jkf jks jun T9 fk fi fz fn fa fs fu) (cwV 2 hts (jgV (jWr_27 _ (List.mem_of_getElem? (i := 1) rfl)) (jWr_27 _ (List.mem_of_getElem? (i := 2) rfl)) (jWr_27 _ (List.mem_of_getElem? (i := 3) rfl)) (jWr_1 _ (List.mem_of_getElem? (i := 22) rfl)) (jWr_27 _ (List.mem_of_getElem? (i := 4) rfl))) rfl rfl rfl (by decide +kernel) ⟨by rw [← hR]; exact Nat.le_of_ble_eq_true rfl, by rw [← hR]; exact Nat.le_of_ble_eq_true rfl⟩) ⟨fun a U g mk q => by obtain ⟨q0, q1, q2, qK, q10, q11, q12, q13, q14, q15, q16, q17, q18, q19, q20, q21⟩ := q; exact ⟨q0, q1, q2, jG.calling g mk a qK, (q10.moved (Vm.Alike.refl U.vm)), q11, q12, q13, q14, q15, q16, q17, q18, q19, q20, q21⟩, hh_8.recv (C := RX4) (T := TX4) (N := 12) hB6 rfl (by decide) hg_js hK, fun U hU hW => ⟨rfl, hU, hh_8.2.1, hG.step hW hU hh_8.1, (hTstr329.moved hW.alike).kept hh_8.1.2.1, hg_js, hg_wk, hg_wi, hg_wz, hg_jnx, hg_jkf, hg_jks, hg_jun, (hh_8.2.2.1.sub (L1 := [(js, 6, 7, .int pv), (js, 6, 8, .int pu), (js, 6, 0, .ref wk), (js, 6, 1, .ref wi), (js, 6, 2, .ref wz), (js, 6, 3, .ref jnx), (js, 6, 4, .ref jkf), (js, 6, 5, .ref jks), (js, 6, 6, .ref jun)]) [9, 10, 11, 12, 13, 14, 15, 16, 17] rfl), (hh_8.2.2.2.2.2.2.2.1.sub (L1 := [(wk, 140, 1502, ca 1, fk), (wi, 141, 1502, ca 1, fi), (wz, 142, 1502, ca 1, fz), (jnx, 143, 1502, ca 1, fn), (jkf, 144, 1502, ca 1, fa), (jks, 145, 1502, ca 1, fs), (jun, 146, 3000, ca 1, fu)]) [0, 1, 2, 3, 4, 5, 6] rfl), ⟨(by first | (with_reducible assumption) | omega | rfl | fail), (by first | (with_reducible assumption) | omega | rfl | fail), (by first | (with_reducible assumption) | omega | rfl | fail), (by first | (with_reducible assumption) | omega | rfl | fail), (by first | assumption | fail | omega), (by first | (with_reducible assumption) | omega | rfl | fail), (by first | assumption | fail | omega)⟩⟩⟩ rfl rfl hl.1 rfl (lv_room (Nat.le_of_ble_eq_true rfl)) dX11_notification_75 ⟨by rw [hRc]; show _ + 0 ≤ _; omega, by rw [hRs]; show _ + 0 ≤ _; omega⟩) hh_8.1 (fun q _ h => h) (fun q h => h) (fun r_12 u_11 t_11 H_11 locs_11 ht_11 hvm_11 hr_12 hb_11 hz_11 hk_11 hS_11 => ?_)
        rw [ht_11] at hb_11
        obtain ⟨hb_11, hbF_11⟩ := hb_11
        obtain ⟨hb_111, hb_112, hb_113, hb_114, hb_115⟩ := hb_11
        have hh_11 : jSt (dC, dI) B base G0 G0 EX11_notificationU s.heap 0 0 [(r0, 13, 4, .ref bo), (bo, 2, 1, .int pc), (bo, 2, 0, .ref pa), (r0, 13, 3, .ref ou), (r0, 13, 1, .ref fm), (fm, 4, 1, .int fl), (r0, 13, 7, .ref op), (op, 1, 2, .int sz), (r0, 13, 2, .ref js), (js, 6, 7, .int pv), (js, 6, 8, .int pu), (js, 6, 0, .ref wk), (js, 6, 1, .ref wi), (js, 6, 2, .ref wz), (js, 6, 3, .ref jnx), (js, 6, 4, .ref jkf), (js, 6, 5, .ref jks), (js, 6, 6, .ref jun), (r0, 13, 15, .ref sp), (r0, 13, 11, .int pz), (fm, 4, 4, .int br)] [(wk, 140, 1502, ca 1, fk), (wi, 141, 1502, ca 1, fi), (wz, 142, 1502, ca 1, fz), (jnx, 143, 1502, ca 1, fn), (jkf, 144, 1502, ca 1, fa), (jks, 145, 1502, ca 1, fs), (jun, 146, 3000, ca 1, fu)] [([(2, 0), (2, 1)], jOl (dC, dI) G0 2 [bo, ou] s.heap), (jFy, jYb dC dI G0), (jFl, jLs dC dI ca G0 3 none wl), (jFdo, jDcc dC dI ca G0 none ph), (jFcd, jCD dC dI ca G0 none tq)] H_11 locs_11 := ((hh_8.call hb_111 hb_112 hb_113 hb_114 hS_11 rfl (L1 := [(r0, 13, 4, .ref bo), (bo, 2, 1, .int pc), (bo, 2, 0, .ref pa), (r0, 13, 3, .ref ou), (r0, 13, 1, .ref fm), (fm, 4, 1, .int fl), (r0, 13, 7, .ref op), (op, 1, 2, .int sz), (r0, 13, 2, .ref js), (js, 6, 7, .int pv), (js, 6, 8, .int pu), (js, 6, 0, .ref wk), (js, 6, 1, .ref wi), (js, 6, 2, .ref wz), (js, 6, 3, .ref jnx), (js, 6, 4, .ref jkf), (js, 6, 5, .ref jks), (js, 6, 6, .ref jun), (r0, 13, 15, .ref sp), (r0, 13, 11, .int pz), (fm, 4, 4, .int br)]) [0, 1, 2, 3, 4, 5, 6, 7, 8, 9, 10, 11, 12, 13, 14, 15, 16, 17, 18, 19, 20] rfl rfl (M1 := [(wk, 140, 1502, ca 1, fk), (wi, 141, 1502, ca 1, fi), (wz, 142, 1502, ca 1, fz), (jnx, 143, 1502, ca 1, fn), (jkf, 144, 1502, ca 1, fa), (jks, 145, 1502, ca 1, fs), (jun, 146, 3000, ca 1, fu)]) [0, 1, 2, 3, 4, 5, 6] rfl rfl (I1 := [([(2, 0), (2, 1)], jOl (dC, dI) G0 2 [bo, ou] s.heap), (jFy, jYb dC dI G0), (jFl, jLs dC dI ca G0 3 none wl), (jFdo, jDcc dC dI ca G0 none ph), (jFcd, jCD dC dI ca G0 none tq)]) [0, 1, 2, 3, 4] rfl rfl).more hb_115)
        clear hh_8 ht_11 hvm_11 hz_11 hk_11 hS_11 hb_111 hb_112 hb_113 hb_114 hb_115
        obtain ⟨hr_12b, hr_12p⟩ := hr_12
        obtain ⟨hr_12p_0, hr_12p_1⟩ := hr_12p
        have hr_12p_0o := jOr.of hr_12p_0
        clear hr_12p_0
        have hr_12p_0 := hr_12p_0o
        clear hr_12p_0o
        have hr_12' := jb_01 hr_12b
        refine lv_if_eq (tgt := 88) hx hb dX11_notification_78 (by decide) (fun c_13 => ?_) (fun c_13 => ?_)
        · skip
          have c_13' : r_12.toInt = 0 := jb_eq (rfl) ((by decide)) c_13
          first | (have hr_12p_0q := hr_12p_0.resolve_left (by omega); clear hr_12p_0) | (have hr_12p_0q := hr_12p_0.resolve_right (by omega); clear hr_12p_0) | try clear hr_12p_0
          first | (have hr_3_2q := hr_3_2.resolve_left (by omega); clear hr_3_2) | (have hr_3_2q := hr_3_2.resolve_right (by omega); clear hr_3_2) | skip
          refine lv_aload_n hx hb dX11_notification_88 rfl (lv_at hl 1 rfl) ?_
          refine j7_read hx hb hown hK (C := RX11) (T := TX11) (N := 19) rfl hly_13_2 hlk_28 (hh_11.at 8 rfl) dX11_notification_89 ?_
          refine lv_iload_n hx hb dX11_notification_92 rfl (lv_at hl 0 rfl) ?_
          refine j_ldcSw hx hb hown rstr334 dX11_notification_93 ?_
          try clear hsz_11 htt_11 hrc_11 hrs_11
          have hsz_14 := hh_11.2.2.2.2.2.1
          have htt_14 := hh_11.2.2.2.2.2.2.1
          refine W.room (fun hrc_14 hrs_14 => ?_)
          refine va_calli (A0 := jA base) (H0 := s.heap) (va_runV (As := [.int r_3, .ref str334]) (rest := []) ⟨hx, hb, hml, hown, hts⟩ (uX4_isTextJ l dC dI ca base B hB hAp hB6 hB140 hB141 hB142 hB146 G0 H_11 js r_3 str334 21 (jChT "textDocument/didClose") pv pu wk wi wz jnx jkf jks jun T9 fk fi fz fn fa fs fu) (cwV 2 hts (jgV (jWr_27 _ (List.mem_of_getElem? (i := 1) rfl)) (jWr_27 _ (List.mem_of_getElem? (i := 2) rfl)) (jWr_27 _ (List.mem_of_getElem? (i := 3) rfl)) (jWr_1 _ (List.mem_of_getElem? (i := 22) rfl)) (jWr_27 _ (List.mem_of_getElem? (i := 4) rfl))) rfl rfl rfl (by decide +kernel) ⟨by rw [← hR]; exact Nat.le_of_ble_eq_true rfl, by rw [← hR]; exact Nat.le_of_ble_eq_true rfl⟩) ⟨fun a U g mk q => by obtain ⟨q0, q1, q2, qK, q10, q11, q12, q13, q14, q15, q16, q17, q18, q19, q20, q21⟩ := q; exact ⟨q0, q1, q2, jG.calling g mk a qK, (q10.moved (Vm.Alike.refl U.vm)), q11, q12, q13, q14, q15, q16, q17, q18, q19, q20, q21⟩, hh_11.recv (C := RX4) (T := TX4) (N := 12) hB6 rfl (by decide) hg_js hK, fun U hU hW => ⟨rfl, hU, hh_11.2.1, hG.step hW hU hh_11.1, (hTstr334.moved hW.alike).kept hh_11.1.2.1, hg_js, hg_wk, hg_wi, hg_wz, hg_jnx, hg_jkf, hg_jks, hg_jun, (hh_11.2.2.1.sub (L1 := [(js, 6, 7, .int pv), (js, 6, 8, .int pu), (js, 6, 0, .ref wk), (js, 6, 1, .ref wi), (js, 6, 2, .ref wz), (js, 6, 3, .ref jnx), (js, 6, 4, .ref jkf), (js, 6, 5, .ref jks), (js, 6, 6, .ref jun)]) [9, 10, 11, 12, 13, 14, 15, 16, 17] rfl), (hh_11.2.2.2.2.2.2.2.1.sub (L1 := [(wk, 140, 1502, ca 1, fk), (wi, 141, 1502, ca 1, fi), (wz, 142, 1502, ca 1, fz), (jnx, 143, 1502, ca 1, fn), (jkf, 144, 1502, ca 1, fa), (jks, 145, 1502, ca 1, fs), (jun, 146, 3000, ca 1, fu)]) [0, 1, 2, 3, 4, 5, 6] rfl), ⟨(by first | (with_reducible assumption) | omega | rfl | fail), (by first | (with_reducible assumption) | omega | rfl | fail), (by first | (with_reducible assumption) | omega | rfl | fail), (by first | (with_reducible assumption) | omega | rfl | fail), (by first | assumption | fail | omega), (by first | (with_reducible assumption) | omega | rfl | fail), (by first | assumption | fail | omega)⟩⟩⟩ rfl rfl hl.1 rfl (lv_room (Nat.le_of_ble_eq_true rfl)) dX11_notification_96 ⟨by rw [hRc]; show _ + 0 ≤ _; omega, by rw [hRs]; show _ + 0 ≤ _; omega⟩) hh_11.1 (fun q _ h => h) (fun q h => h) (fun r_15 u_14 t_14 H_14 locs_14 ht_14 hvm_14 hr_15 hb_14 hz_14 hk_14 hS_14 => ?_)
          rw [ht_14] at hb_14
          obtain ⟨hb_14, hbF_14⟩ := hb_14
          obtain ⟨hb_141, hb_142, hb_143, hb_144, hb_145⟩ := hb_14
          have hh_14 : jSt (dC, dI) B base G0 G0 EX11_notificationU s.heap 0 0 [(r0, 13, 4, .ref bo), (bo, 2, 1, .int pc), (bo, 2, 0, .ref pa), (r0, 13, 3, .ref ou), (r0, 13, 1, .ref fm), (fm, 4, 1, .int fl), (r0, 13, 7, .ref op), (op, 1, 2, .int sz), (r0, 13, 2, .ref js), (js, 6, 7, .int pv), (js, 6, 8, .int pu), (js, 6, 0, .ref wk), (js, 6, 1, .ref wi), (js, 6, 2, .ref wz), (js, 6, 3, .ref jnx), (js, 6, 4, .ref jkf), (js, 6, 5, .ref jks), (js, 6, 6, .ref jun), (r0, 13, 15, .ref sp), (r0, 13, 11, .int pz), (fm, 4, 4, .int br)] [(wk, 140, 1502, ca 1, fk), (wi, 141, 1502, ca 1, fi), (wz, 142, 1502, ca 1, fz), (jnx, 143, 1502, ca 1, fn), (jkf, 144, 1502, ca 1, fa), (jks, 145, 1502, ca 1, fs), (jun, 146, 3000, ca 1, fu)] [([(2, 0), (2, 1)], jOl (dC, dI) G0 2 [bo, ou] s.heap), (jFy, jYb dC dI G0), (jFl, jLs dC dI ca G0 3 none wl), (jFdo, jDcc dC dI ca G0 none ph), (jFcd, jCD dC dI ca G0 none tq)] H_14 locs_14 := ((hh_11.call hb_141 hb_142 hb_143 hb_144 hS_14 rfl (L1 := [(r0, 13, 4, .ref bo), (bo, 2, 1, .int pc), (bo, 2, 0, .ref pa), (r0, 13, 3, .ref ou), (r0, 13, 1, .ref fm), (fm, 4, 1, .int fl), (r0, 13, 7, .ref op), (op, 1, 2, .int sz), (r0, 13, 2, .ref js), (js, 6, 7, .int pv), (js, 6, 8, .int pu), (js, 6, 0, .ref wk), (js, 6, 1, .ref wi), (js, 6, 2, .ref wz), (js, 6, 3, .ref jnx), (js, 6, 4, .ref jkf), (js, 6, 5, .ref jks), (js, 6, 6, .ref jun), (r0, 13, 15, .ref sp), (r0, 13, 11, .int pz), (fm, 4, 4, .int br)]) [0, 1, 2, 3, 4, 5, 6, 7, 8, 9, 10, 11, 12, 13, 14, 15, 16, 17, 18, 19, 20] rfl rfl (M1 := [(wk, 140, 1502, ca 1, fk), (wi, 141, 1502, ca 1, fi), (wz, 142, 1502, ca 1, fz), (jnx, 143, 1502, ca 1, fn), (jkf, 144, 1502, ca 1, fa), (jks, 145, 1502, ca 1, fs), (jun, 146, 3000, ca 1, fu)]) [0, 1, 2, 3, 4, 5, 6] rfl rfl (I1 := [([(2, 0), (2, 1)], jOl (dC, dI) G0 2 [bo, ou] s.heap), (jFy, jYb dC dI G0), (jFl, jLs dC dI ca G0 3 none wl), (jFdo, jDcc dC dI ca G0 none ph), (jFcd, jCD dC dI ca G0 none tq)]) [0, 1, 2, 3, 4] rfl rfl).more hb_145)
          clear hh_11 ht_14 hvm_14 hz_14 hk_14 hS_14 hb_141 hb_142 hb_143 hb_144 hb_145
          obtain ⟨hr_15b, hr_15p⟩ := hr_15
          obtain ⟨hr_15p_0, hr_15p_1⟩ := hr_15p
          have hr_15p_0o := jOr.of hr_15p_0
          clear hr_15p_0
          have hr_15p_0 := hr_15p_0o
          clear hr_15p_0o
          have hr_15' := jb_01 hr_15b
          refine lv_if_eq (tgt := 109) hx hb dX11_notification_99 (by decide) (fun c_16 => ?_) (fun c_16 => ?_)
          · skip
            have c_16' : r_15.toInt = 0 := jb_eq (rfl) ((by decide)) c_16
            first | (have hr_15p_0q := hr_15p_0.resolve_left (by omega); clear hr_15p_0) | (have hr_15p_0q := hr_15p_0.resolve_right (by omega); clear hr_15p_0) | try clear hr_15p_0
            first | (have hr_3_2q := hr_3_2.resolve_left (by omega); clear hr_3_2) | (have hr_3_2q := hr_3_2.resolve_right (by omega); clear hr_3_2) | skip
            refine lv_aload_n hx hb dX11_notification_109 rfl (lv_at hl 1 rfl) ?_
            refine j7_read hx hb hown hK (C := RX11) (T := TX11) (N := 19) rfl hly_13_2 hlk_28 (hh_14.at 8 rfl) dX11_notification_110 ?_
            refine lv_iload_n hx hb dX11_notification_113 rfl (lv_at hl 0 rfl) ?_
            refine j_ldcSw hx hb hown rstr339 dX11_notification_114 ?_
            try clear hsz_14 htt_14 hrc_14 hrs_14
            have hsz_17 := hh_14.2.2.2.2.2.1
            have htt_17 := hh_14.2.2.2.2.2.2.1
            refine W.room (fun hrc_17 hrs_17 => ?_)
            refine va_calli (A0 := jA base) (H0 := s.heap) (va_runV (As := [.int r_3, .ref str339]) (rest := []) ⟨hx, hb, hml, hown, hts⟩ (uX4_isTextJ l dC dI ca base B hB hAp hB6 hB140 hB141 hB142 hB146 G0 H_14 js r_3 str339 15 (jChT "$/cancelRequest") pv pu wk wi wz jnx jkf jks jun T9 fk fi fz fn fa fs fu) (cwV 2 hts (jgV (jWr_27 _ (List.mem_of_getElem? (i := 1) rfl)) (jWr_27 _ (List.mem_of_getElem? (i := 2) rfl)) (jWr_27 _ (List.mem_of_getElem? (i := 3) rfl)) (jWr_1 _ (List.mem_of_getElem? (i := 22) rfl)) (jWr_27 _ (List.mem_of_getElem? (i := 4) rfl))) rfl rfl rfl (by decide +kernel) ⟨by rw [← hR]; exact Nat.le_of_ble_eq_true rfl, by rw [← hR]; exact Nat.le_of_ble_eq_true rfl⟩) ⟨fun a U g mk q => by obtain ⟨q0, q1, q2, qK, q10, q11, q12, q13, q14, q15, q16, q17, q18, q19, q20, q21⟩ := q; exact ⟨q0, q1, q2, jG.calling g mk a qK, (q10.moved (Vm.Alike.refl U.vm)), q11, q12, q13, q14, q15, q16, q17, q18, q19, q20, q21⟩, hh_14.recv (C := RX4) (T := TX4) (N := 12) hB6 rfl (by decide) hg_js hK, fun U hU hW => ⟨rfl, hU, hh_14.2.1, hG.step hW hU hh_14.1, (hTstr339.moved hW.alike).kept hh_14.1.2.1, hg_js, hg_wk, hg_wi, hg_wz, hg_jnx, hg_jkf, hg_jks, hg_jun, (hh_14.2.2.1.sub (L1 := [(js, 6, 7, .int pv), (js, 6, 8, .int pu), (js, 6, 0, .ref wk), (js, 6, 1, .ref wi), (js, 6, 2, .ref wz), (js, 6, 3, .ref jnx), (js, 6, 4, .ref jkf), (js, 6, 5, .ref jks), (js, 6, 6, .ref jun)]) [9, 10, 11, 12, 13, 14, 15, 16, 17] rfl), (hh_14.2.2.2.2.2.2.2.1.sub (L1 := [(wk, 140, 1502, ca 1, fk), (wi, 141, 1502, ca 1, fi), (wz, 142, 1502, ca 1, fz), (jnx, 143, 1502, ca 1, fn), (jkf, 144, 1502, ca 1, fa), (jks, 145, 1502, ca 1, fs), (jun, 146, 3000, ca 1, fu)]) [0, 1, 2, 3, 4, 5, 6] rfl), ⟨(by first | (with_reducible assumption) | omega | rfl | fail), (by first | (with_reducible assumption) | omega | rfl | fail), (by first | (with_reducible assumption) | omega | rfl | fail), (by first | (with_reducible assumption) | omega | rfl | fail), (by first | assumption | fail | omega), (by first | (with_reducible assumption) | omega | rfl | fail), (by first | assumption | fail | omega)⟩⟩⟩ rfl rfl hl.1 rfl (lv_room (Nat.le_of_ble_eq_true rfl)) dX11_notification_117 ⟨by rw [hRc]; show _ + 0 ≤ _; omega, by rw [hRs]; show _ + 0 ≤ _; omega⟩) hh_14.1 (fun q _ h => h) (fun q h => h) (fun r_18 u_17 t_17 H_17 locs_17 ht_17 hvm_17 hr_18 hb_17 hz_17 hk_17 hS_17 => ?_)
            rw [ht_17] at hb_17
            obtain ⟨hb_17, hbF_17⟩ := hb_17
            obtain ⟨hb_171, hb_172, hb_173, hb_174, hb_175⟩ := hb_17
            have hh_17 : jSt (dC, dI) B base G0 G0 EX11_notificationU s.heap 0 0 [(r0, 13, 4, .ref bo), (bo, 2, 1, .int pc), (bo, 2, 0, .ref pa), (r0, 13, 3, .ref ou), (r0, 13, 1, .ref fm), (fm, 4, 1, .int fl), (r0, 13, 7, .ref op), (op, 1, 2, .int sz), (r0, 13, 2, .ref js), (js, 6, 7, .int pv), (js, 6, 8, .int pu), (js, 6, 0, .ref wk), (js, 6, 1, .ref wi), (js, 6, 2, .ref wz), (js, 6, 3, .ref jnx), (js, 6, 4, .ref jkf), (js, 6, 5, .ref jks), (js, 6, 6, .ref jun), (r0, 13, 15, .ref sp), (r0, 13, 11, .int pz), (fm, 4, 4, .int br)] [(wk, 140, 1502, ca 1, fk), (wi, 141, 1502, ca 1, fi), (wz, 142, 1502, ca 1, fz), (jnx, 143, 1502, ca 1, fn), (jkf, 144, 1502, ca 1, fa), (jks, 145, 1502, ca 1, fs), (jun, 146, 3000, ca 1, fu)] [([(2, 0), (2, 1)], jOl (dC, dI) G0 2 [bo, ou] s.heap), (jFy, jYb dC dI G0), (jFl, jLs dC dI ca G0 3 none wl), (jFdo, jDcc dC dI ca G0 none ph), (jFcd, jCD dC dI ca G0 none tq)] H_17 locs_17 := ((hh_14.call hb_171 hb_172 hb_173 hb_174 hS_17 rfl (L1 := [(r0, 13, 4, .ref bo), (bo, 2, 1, .int pc), (bo, 2, 0, .ref pa), (r0, 13, 3, .ref ou), (r0, 13, 1, .ref fm), (fm, 4, 1, .int fl), (r0, 13, 7, .ref op), (op, 1, 2, .int sz), (r0, 13, 2, .ref js), (js, 6, 7, .int pv), (js, 6, 8, .int pu), (js, 6, 0, .ref wk), (js, 6, 1, .ref wi), (js, 6, 2, .ref wz), (js, 6, 3, .ref jnx), (js, 6, 4, .ref jkf), (js, 6, 5, .ref jks), (js, 6, 6, .ref jun), (r0, 13, 15, .ref sp), (r0, 13, 11, .int pz), (fm, 4, 4, .int br)]) [0, 1, 2, 3, 4, 5, 6, 7, 8, 9, 10, 11, 12, 13, 14, 15, 16, 17, 18, 19, 20] rfl rfl (M1 := [(wk, 140, 1502, ca 1, fk), (wi, 141, 1502, ca 1, fi), (wz, 142, 1502, ca 1, fz), (jnx, 143, 1502, ca 1, fn), (jkf, 144, 1502, ca 1, fa), (jks, 145, 1502, ca 1, fs), (jun, 146, 3000, ca 1, fu)]) [0, 1, 2, 3, 4, 5, 6] rfl rfl (I1 := [([(2, 0), (2, 1)], jOl (dC, dI) G0 2 [bo, ou] s.heap), (jFy, jYb dC dI G0), (jFl, jLs dC dI ca G0 3 none wl), (jFdo, jDcc dC dI ca G0 none ph), (jFcd, jCD dC dI ca G0 none tq)]) [0, 1, 2, 3, 4] rfl rfl).more hb_175)
            clear hh_14 ht_17 hvm_17 hz_17 hk_17 hS_17 hb_171 hb_172 hb_173 hb_174 hb_175
            obtain ⟨hr_18b, hr_18p⟩ := hr_18
            obtain ⟨hr_18p_0, hr_18p_1⟩ := hr_18p
            have hr_18p_0o := jOr.of hr_18p_0
            clear hr_18p_0
            have hr_18p_0 := hr_18p_0o
            clear hr_18p_0o
            have hr_18' := jb_01 hr_18b
            refine lv_if_eq (tgt := 127) hx hb dX11_notification_120 (by decide) (fun c_19 => ?_) (fun c_19 => ?_)
            · skip
              have c_19' : r_18.toInt = 0 := jb_eq (rfl) ((by decide)) c_19
              first | (have hr_18p_0q := hr_18p_0.resolve_left (by omega); clear hr_18p_0) | (have hr_18p_0q := hr_18p_0.resolve_right (by omega); clear hr_18p_0) | try clear hr_18p_0
              first | (have hr_3_2q := hr_3_2.resolve_left (by omega); clear hr_3_2) | (have hr_3_2q := hr_3_2.resolve_right (by omega); clear hr_3_2) | skip
              have hfi9 : jdIv tq wl := hpIV
              have hfn9 : jdNt T9 pv.toInt pz.toInt br.toInt (br.toInt) (jdCs tq wl) (jdCs tq wl) := jdNt.n hm9 (by rw [← hr_5p_1]; omega) (by omega) ((jdNo.n hm9 (by rw [← hr_9p_1]; omega) (by rw [← hr_12p_1]; omega) (by rw [← hr_15p_1]; omega)).symm)
              try clear hsz_17 htt_17 hrc_17 hrs_17
              have hsz_20 := hh_17.2.2.2.2.2.1
              have htt_20 := hh_17.2.2.2.2.2.2.1
              refine W.room (fun hrc_20 hrs_20 => ?_)
              refine W.widen (k := LC - s.heap.size) (n := LS - jTot s.heap) (by omega) (by omega) ?_
              rw [hQ]
              exact W.vret hx hb hr (fun t ht hW => ⟨⟨(pc, br, pa, n_pa, ph, wl, tq, G0), rfl, by (try dsimp only); exact ⟨(by first | (with_reducible assumption) | omega | rfl | fail), (by first | (with_reducible assumption) | omega | rfl | fail), (by first | (with_reducible assumption) | omega | rfl | fail), (by first | (with_reducible assumption) | omega | rfl | fail), (by first | assumption | fail | omega), (by first | (with_reducible assumption) | omega | rfl | fail), (by first | assumption | fail | omega), (by first | assumption | fail | omega)⟩, ⟨hh_17.ra (by first | (simp only; omega) | omega) (by first | (simp only; omega) | omega) (M1 := [(bo, 2, 1, .int pc), (fm, 4, 4, .int br), (bo, 2, 0, .ref pa)]) [1, 20, 2] rfl ht, hg_pa, jNk.rf, by rw [ht]; exact hh_17.iv 0 rfl, by rw [ht]; exact hh_17.2.2.2.2.2.2.2.2.sub (L1 := [(jFy, jYb dC dI G0), (jFl, jLs dC dI ca G0 3 none wl), (jFdo, jDcc dC dI ca G0 none ph), (jFcd, jCD dC dI ca G0 none tq)]) [1, 2, 3, 4] rfl⟩⟩, by rw [ht]; try exact hh_17.1.1, fun q h9 hq => by rw [ht]; try exact hh_17.1.2.1 q h9 hq⟩) hh_17.1.2.2 dX11_notification_127
            · skip
              have c_19' : r_18.toInt ≠ 0 := jb_eq_n (rfl) ((by decide)) c_19
              first | (have hr_18p_0q := hr_18p_0.resolve_left (by omega); clear hr_18p_0) | (have hr_18p_0q := hr_18p_0.resolve_right (by omega); clear hr_18p_0) | try clear hr_18p_0
              first | (have hr_3_2q := hr_3_2.resolve_left (by omega); clear hr_3_2) | (have hr_3_2q := hr_3_2.resolve_right (by omega); clear hr_3_2) | skip
              have hmg := jMh.mg (m := r_3.toInt) hp11 (by omega) (by omega) (by omega) (by omega) (by omega : jSo fz r_3.toInt = 15)
              have hb2 := jMg.two hmg
              refine lv_aload_n hx hb dX11_notification_123 rfl (lv_at hl 1 rfl) ?_
              try clear hsz_17 htt_17 hrc_17 hrs_17
              have hsz_21 := hh_17.2.2.2.2.2.1
              have htt_21 := hh_17.2.2.2.2.2.2.1
              refine W.room (fun hrc_21 hrs_21 => ?_)
              refine va_callv (A0 := jA base) (H0 := s.heap) (va_runV (As := []) (rest := []) ⟨hx, hb, hml, hown, hts⟩ (uX11_cancelRequest l dC dI ca base B hB hAp hB1 hB2 hB3 hB4 hB6 hB10 hB13 hB101 hB140 hB141 hB142 hB143 hB144 hB145 hB146 hB196 hB222 G0 H_17 r0 bo pc pa n_pa ou js pv pu wk wi wz jks wl fk fi fz fs LC LS) (cwV 0 hts (jgV (jWr_43 _ (List.mem_of_getElem? (i := 18) rfl)) (jWr_43 _ (List.mem_of_getElem? (i := 19) rfl)) (jWr_43 _ (List.mem_of_getElem? (i := 20) rfl)) (jWr_1 _ (List.mem_of_getElem? (i := 2) rfl)) (jWr_43 _ (List.mem_of_getElem? (i := 21) rfl))) rfl rfl rfl (by decide +kernel) ⟨by rw [← hR]; exact Nat.le_of_ble_eq_true rfl, by rw [← hR]; exact Nat.le_of_ble_eq_true rfl⟩) ⟨fun a U g mk q => by obtain ⟨q0, q1, q2, qK, q10, q11, q12, q13, q14, q15, q16, q17, q18, q19, q20, q21, q22, q23, q24⟩ := q; exact ⟨q0, q1, q2, jG.calling g mk a qK, (jK5.moved (Vm.Alike.refl U.vm) q10), (jK7.calling g mk a q11), q12, q13, q14, q15, q16, q17, q18, q19, q20, q21, q22, q23, q24⟩, hh_17.recv (C := RX11) (T := TX11) (N := 19) hB13 rfl (by decide) hg_r0 hK, fun U hU hW => ⟨rfl, hU, hh_17.2.1, hG.step hW hU hh_17.1, jK5.moved hW.alike hK5, (hK7.step hW hU hh_17.1), hg_r0, hg_bo, hg_pa, hg_ou, hg_js, hg_wk, hg_wi, hg_wz, hg_jks, (hh_17.2.2.1.sub (L1 := [(r0, 13, 4, .ref bo), (bo, 2, 1, .int pc), (bo, 2, 0, .ref pa), (r0, 13, 3, .ref ou), (r0, 13, 2, .ref js), (js, 6, 7, .int pv), (js, 6, 8, .int pu), (js, 6, 0, .ref wk), (js, 6, 1, .ref wi), (js, 6, 2, .ref wz), (js, 6, 5, .ref jks)]) [0, 1, 2, 3, 8, 9, 10, 11, 12, 13, 16] rfl), (hh_17.2.2.2.2.2.2.2.1.sub (L1 := [(wk, 140, 1502, ca 1, fk), (wi, 141, 1502, ca 1, fi), (wz, 142, 1502, ca 1, fz), (jks, 145, 1502, ca 1, fs)]) [0, 1, 2, 5] rfl), (hh_17.2.2.2.2.2.2.2.2.sub (L1 := [(jFy, jYb dC dI G0), (jFl, jLs dC dI ca G0 3 none wl)]) [1, 2] rfl), (by omega), (by omega), ⟨(by first | (with_reducible assumption) | omega | rfl | fail), (by first | (with_reducible assumption) | omega | rfl | fail), (by first | (with_reducible assumption) | omega | rfl | fail), (by first | (with_reducible assumption) | omega | rfl | fail), (by first | assumption | fail | omega), (by first | (with_reducible assumption) | omega | rfl | fail), (by first | (with_reducible assumption) | omega | rfl | fail), (by first | (with_reducible assumption) | omega | rfl | fail), (by first | (with_reducible assumption) | omega | rfl | fail), (by first | assumption | fail | omega), (by first | assumption | fail | omega)⟩⟩⟩ rfl rfl hl.1 rfl (lv_room (Nat.le_of_ble_eq_true rfl)) dX11_notification_124 ⟨by rw [hRc]; omega, by rw [hRs]; omega⟩) hh_17.1 (fun q _ h => h) (fun q h => h) (fun u_21 t_21 H_21 locs_21 ht_21 hvm_21 hr_22 hb_21 hz_21 hk_21 hS_21 => ?_)
              obtain ⟨qc_21, qa_21, m_qa_21, G_21⟩ := u_21
              rw [ht_21] at hb_21
              simp only at hb_21
              obtain ⟨⟨hb_211, hb_212, hb_213, hb_214, hb_215, hb_216⟩, hgq_21_0, hN_21, hbO_21, hbE_21⟩ := hb_21
              have hE9_21 := hN_21
              have hN_21 : (jNk [0, 1, 4, 5, 6, 7, 8, 9, 11, 12, 13, 14, 15, 16]) G0 G_21 := hN_21.sub (by decide)
              have hh_21 : jSt (dC, dI) B base G0 G_21 EX11_notificationU s.heap (0 + ((m_qa_21 - n_pa) / 16 + 11)) (0 + (2 * (m_qa_21 - n_pa) + 267)) [(bo, 2, 1, .int qc_21), (bo, 2, 0, .ref qa_21), (r0, 13, 4, .ref bo), (r0, 13, 3, .ref ou), (r0, 13, 1, .ref fm), (fm, 4, 1, .int fl), (r0, 13, 7, .ref op), (r0, 13, 2, .ref js), (js, 6, 7, .int pv), (js, 6, 8, .int pu), (js, 6, 0, .ref wk), (js, 6, 1, .ref wi), (js, 6, 2, .ref wz), (js, 6, 3, .ref jnx), (js, 6, 4, .ref jkf), (js, 6, 5, .ref jks), (js, 6, 6, .ref jun), (r0, 13, 15, .ref sp), (r0, 13, 11, .int pz), (fm, 4, 4, .int br)] [(wk, 140, 1502, ca 1, fk), (wi, 141, 1502, ca 1, fi), (wz, 142, 1502, ca 1, fz), (jnx, 143, 1502, ca 1, fn), (jkf, 144, 1502, ca 1, fa), (jks, 145, 1502, ca 1, fs), (jun, 146, 3000, ca 1, fu)] [(jFdo, jDcc dC dI ca G0 none ph), (jFcd, jCD dC dI ca G0 none tq)] H_21 locs_21 := (hh_17.callG hb_211 hb_212 hb_213 hb_214 hb_215 hS_21 rfl (L1 := [(r0, 13, 4, .ref bo), (r0, 13, 3, .ref ou), (r0, 13, 1, .ref fm), (fm, 4, 1, .int fl), (r0, 13, 7, .ref op), (r0, 13, 2, .ref js), (js, 6, 7, .int pv), (js, 6, 8, .int pu), (js, 6, 0, .ref wk), (js, 6, 1, .ref wi), (js, 6, 2, .ref wz), (js, 6, 3, .ref jnx), (js, 6, 4, .ref jkf), (js, 6, 5, .ref jks), (js, 6, 6, .ref jun), (r0, 13, 15, .ref sp), (r0, 13, 11, .int pz), (fm, 4, 4, .int br)]) [0, 3, 4, 5, 6, 8, 9, 10, 11, 12, 13, 14, 15, 16, 17, 18, 19, 20] rfl rfl (M1 := [(wk, 140, 1502, ca 1, fk), (wi, 141, 1502, ca 1, fi), (wz, 142, 1502, ca 1, fz), (jnx, 143, 1502, ca 1, fn), (jkf, 144, 1502, ca 1, fa), (jks, 145, 1502, ca 1, fs), (jun, 146, 3000, ca 1, fu)]) [0, 1, 2, 3, 4, 5, 6] rfl rfl (I1 := [(jFdo, jDcc dC dI ca G0 none ph), (jFcd, jCD dC dI ca G0 none tq)]) [3, 4] rfl rfl).more hb_216
              have hNn_21 : (jNk [0, 1, 4, 5, 6, 7, 8, 9, 11, 12, 13, 14, 15, 16]) G0 G_21 := (jNk.rf).tr hN_21
              have hg_23 := hb_212 _ _ hg_r0
              have hg_24 := hb_212 _ _ hg_bo
              have hg_25 := hb_212 _ _ hg_ou
              have hg_26 := hb_212 _ _ hg_fm
              have hg_27 := hb_212 _ _ hg_op
              have hg_28 := hb_212 _ _ hg_js
              have hg_29 := hb_212 _ _ hg_wk
              have hg_30 := hb_212 _ _ hg_wi
              have hg_31 := hb_212 _ _ hg_wz
              have hg_32 := hb_212 _ _ hg_jnx
              have hg_33 := hb_212 _ _ hg_jkf
              have hg_34 := hb_212 _ _ hg_jks
              have hg_35 := hb_212 _ _ hg_jun
              have hg_36 := hb_212 _ _ hg_sp
              have hd_37 := jDcc.grow (hh_21.iv 0 rfl) hb_212 hE9_21 (by decide)
              have hh_38 := hh_21.sub (L1 := [(bo, 2, 1, .int qc_21), (bo, 2, 0, .ref qa_21), (r0, 13, 4, .ref bo), (r0, 13, 3, .ref ou), (r0, 13, 1, .ref fm), (fm, 4, 1, .int fl), (r0, 13, 7, .ref op), (r0, 13, 2, .ref js), (js, 6, 7, .int pv), (js, 6, 8, .int pu), (js, 6, 0, .ref wk), (js, 6, 1, .ref wi), (js, 6, 2, .ref wz), (js, 6, 3, .ref jnx), (js, 6, 4, .ref jkf), (js, 6, 5, .ref jks), (js, 6, 6, .ref jun), (r0, 13, 15, .ref sp), (r0, 13, 11, .int pz), (fm, 4, 4, .int br)]) [0, 1, 2, 3, 4, 5, 6, 7, 8, 9, 10, 11, 12, 13, 14, 15, 16, 17, 18, 19] rfl (M1 := [(wk, 140, 1502, ca 1, fk), (wi, 141, 1502, ca 1, fi), (wz, 142, 1502, ca 1, fz), (jnx, 143, 1502, ca 1, fn), (jkf, 144, 1502, ca 1, fa), (jks, 145, 1502, ca 1, fs), (jun, 146, 3000, ca 1, fu)]) [0, 1, 2, 3, 4, 5, 6] rfl (I1 := [(jFcd, jCD dC dI ca G0 none tq)]) [1] rfl
              clear hh_21
              have hh_39 := hh_38.addI (jDcc.ie hd_37)
              clear hh_38
              have hd_40 := jCD.grow (hh_39.iv 1 rfl) hb_212 hE9_21 (by decide)
              have hh_41 := hh_39.sub (L1 := [(bo, 2, 1, .int qc_21), (bo, 2, 0, .ref qa_21), (r0, 13, 4, .ref bo), (r0, 13, 3, .ref ou), (r0, 13, 1, .ref fm), (fm, 4, 1, .int fl), (r0, 13, 7, .ref op), (r0, 13, 2, .ref js), (js, 6, 7, .int pv), (js, 6, 8, .int pu), (js, 6, 0, .ref wk), (js, 6, 1, .ref wi), (js, 6, 2, .ref wz), (js, 6, 3, .ref jnx), (js, 6, 4, .ref jkf), (js, 6, 5, .ref jks), (js, 6, 6, .ref jun), (r0, 13, 15, .ref sp), (r0, 13, 11, .int pz), (fm, 4, 4, .int br)]) [0, 1, 2, 3, 4, 5, 6, 7, 8, 9, 10, 11, 12, 13, 14, 15, 16, 17, 18, 19] rfl (M1 := [(wk, 140, 1502, ca 1, fk), (wi, 141, 1502, ca 1, fi), (wz, 142, 1502, ca 1, fz), (jnx, 143, 1502, ca 1, fn), (jkf, 144, 1502, ca 1, fa), (jks, 145, 1502, ca 1, fs), (jun, 146, 3000, ca 1, fu)]) [0, 1, 2, 3, 4, 5, 6] rfl (I1 := [(jFdo, jDcc dC dI ca G_21 none ph)]) [0] rfl
              clear hh_39
              have hh_42 := hh_41.addI (jCD.ie hd_40)
              clear hh_41
              have hh_43 := hh_42.addIs hbE_21
              have hd_44 := jOl.trL (hh_17.iv 0 rfl) hh_17.2.2.2.2.1 hbO_21 (by simp)
              have hh_45 := hh_43.addI (jOl.ie (dC := dC) (dI := dI) (G0 := G0) (k := 2) (rs := [bo, ou]) (H0 := s.heap) (F := [(2, 0), (2, 1)]) (C := RX0) (T := TX0) (N := 2) rfl (by decide) hh_43.2.2.2.2.1 (hd_44))
              clear hh_43
              try simp only at hr_22
              obtain ⟨hr_22_0, hr_22_1, hr_22_2, hr_22_3, hr_22_4⟩ := hr_22
              have hfi9 : jdIv tq wl := hpIV
              have hfn9 : jdNt T9 pv.toInt pz.toInt br.toInt (br.toInt) (jdCs tq wl) (jdCs tq wl) := jdNt.n hm9 (by rw [← hr_5p_1]; omega) (by omega) ((jdNo.n hm9 (by rw [← hr_9p_1]; omega) (by rw [← hr_12p_1]; omega) (by rw [← hr_15p_1]; omega)).symm)
              try clear hsz_21 htt_21 hrc_21 hrs_21
              have hsz_46 := hh_45.2.2.2.2.2.1
              have htt_46 := hh_45.2.2.2.2.2.2.1
              refine W.room (fun hrc_46 hrs_46 => ?_)
              refine W.widen (k := LC - s.heap.size) (n := LS - jTot s.heap) (by omega) (by omega) ?_
              rw [hQ]
              exact W.vret hx hb hr (fun t ht hW => ⟨⟨(qc_21, br, qa_21, m_qa_21, ph, wl, tq, G_21), rfl, by (try dsimp only); exact ⟨(by first | (with_reducible assumption) | omega | rfl | fail), (by first | (with_reducible assumption) | omega | rfl | fail), (by first | (with_reducible assumption) | omega | rfl | fail), (by first | (with_reducible assumption) | omega | rfl | fail), (by first | assumption | fail | omega), (by first | (with_reducible assumption) | omega | rfl | fail), (by first | assumption | fail | omega), (by first | assumption | fail | omega)⟩, ⟨hh_45.ra (by first | (simp only; omega) | omega) (by first | (simp only; omega) | omega) (M1 := [(bo, 2, 1, .int qc_21), (fm, 4, 4, .int br), (bo, 2, 0, .ref qa_21)]) [0, 19, 1] rfl ht, hgq_21_0, hNn_21, by rw [ht]; exact hh_45.iv 0 rfl, by rw [ht]; exact hh_45.2.2.2.2.2.2.2.2.sub (L1 := [(jFy, jYb dC dI G_21), (jFl, jLs dC dI ca G_21 3 none wl), (jFdo, jDcc dC dI ca G_21 none ph), (jFcd, jCD dC dI ca G_21 none tq)]) [1, 2, 4, 3] rfl⟩⟩, by rw [ht]; try exact hh_45.1.1, fun q h9 hq => by rw [ht]; try exact hh_45.1.2.1 q h9 hq⟩) hh_45.1.2.2 dX11_notification_127
          · skip
            have c_16' : r_15.toInt ≠ 0 := jb_eq_n (rfl) ((by decide)) c_16
            first | (have hr_15p_0q := hr_15p_0.resolve_left (by omega); clear hr_15p_0) | (have hr_15p_0q := hr_15p_0.resolve_right (by omega); clear hr_15p_0) | try clear hr_15p_0
            first | (have hr_3_2q := hr_3_2.resolve_left (by omega); clear hr_3_2) | (have hr_3_2q := hr_3_2.resolve_right (by omega); clear hr_3_2) | skip
            have hmg := jMh.mg (m := r_3.toInt) hp11 (by omega) (by omega) (by omega) (by omega) (by omega : jSo fz r_3.toInt = 21)
            have hb2 := jMg.two hmg
            refine lv_aload_n hx hb dX11_notification_102 rfl (lv_at hl 1 rfl) ?_
            try clear hsz_14 htt_14 hrc_14 hrs_14
            have hsz_47 := hh_14.2.2.2.2.2.1
            have htt_47 := hh_14.2.2.2.2.2.2.1
            refine W.room (fun hrc_47 hrs_47 => ?_)
            refine va_callv (A0 := jA base) (H0 := s.heap) (va_runV (As := []) (rest := []) ⟨hx, hb, hml, hown, hts⟩ (uX11_closeDocumentU l dC dI ca base B hB hAp hB1 hB2 hB3 hB4 hB6 hB10 hB11 hB13 hB101 hB140 hB141 hB142 hB143 hB144 hB145 hB146 hB171 hB172 hB173 hB174 hB196 hB210 hB212 hB221 hB222 G0 H_14 r0 bo pc pa n_pa ou op sz js pv pu wk wi wz jnx jkf jks jun (ph) wl T9 tq fk fi fz fn fa fs fu LC LS) (cwV 0 hts (jgV (jWr_43 _ (List.mem_of_getElem? (i := 10) rfl)) (jWr_43 _ (List.mem_of_getElem? (i := 11) rfl)) (jWr_43 _ (List.mem_of_getElem? (i := 12) rfl)) (jWr_1 _ (List.mem_of_getElem? (i := 2) rfl)) (jWr_43 _ (List.mem_of_getElem? (i := 13) rfl))) rfl rfl rfl (by decide +kernel) ⟨by rw [← hR]; exact Nat.le_of_ble_eq_true rfl, by rw [← hR]; exact Nat.le_of_ble_eq_true rfl⟩) ⟨fun a U g mk q => by obtain ⟨q0, q1, q2, qK, q10, q11, q12, q13, q14, q15, q16, q17, q18, q19, q20, q21, q22, q23, q24, q25, q26, q27, q28, q29⟩ := q; exact ⟨q0, q1, q2, jG.calling g mk a qK, (va_K.moved (Vm.Alike.refl U.vm) q10), (jK5.moved (Vm.Alike.refl U.vm) q11), (jK7.calling g mk a q12), q13, q14, q15, q16, q17, q18, q19, q20, q21, q22, q23, q24, q25, q26, q27, q28, q29⟩, hh_14.recv (C := RX11) (T := TX11) (N := 19) hB13 rfl (by decide) hg_r0 hK, fun U hU hW => ⟨rfl, hU, hh_14.2.1, hG.step hW hU hh_14.1, va_K.moved hW.alike hK2, jK5.moved hW.alike hK5, (hK7.step hW hU hh_14.1), hg_r0, hg_bo, hg_pa, hg_ou, hg_op, hg_js, hg_wk, hg_wi, hg_wz, hg_jnx, hg_jkf, hg_jks, hg_jun, (hh_14.2.2.1.sub (L1 := [(r0, 13, 4, .ref bo), (bo, 2, 1, .int pc), (bo, 2, 0, .ref pa), (r0, 13, 3, .ref ou), (r0, 13, 7, .ref op), (op, 1, 2, .int sz), (r0, 13, 2, .ref js), (js, 6, 7, .int pv), (js, 6, 8, .int pu), (js, 6, 0, .ref wk), (js, 6, 1, .ref wi), (js, 6, 2, .ref wz), (js, 6, 3, .ref jnx), (js, 6, 4, .ref jkf), (js, 6, 5, .ref jks), (js, 6, 6, .ref jun)]) [0, 1, 2, 3, 6, 7, 8, 9, 10, 11, 12, 13, 14, 15, 16, 17] rfl), (hh_14.2.2.2.2.2.2.2.1.sub (L1 := [(wk, 140, 1502, ca 1, fk), (wi, 141, 1502, ca 1, fi), (wz, 142, 1502, ca 1, fz), (jnx, 143, 1502, ca 1, fn), (jkf, 144, 1502, ca 1, fa), (jks, 145, 1502, ca 1, fs), (jun, 146, 3000, ca 1, fu)]) [0, 1, 2, 3, 4, 5, 6] rfl), (hh_14.2.2.2.2.2.2.2.2.sub (L1 := [(jFy, jYb dC dI G0), (jFl, jLs dC dI ca G0 3 none wl), (jFdo, jDcc dC dI ca G0 none ph), (jFcd, jCD dC dI ca G0 none tq)]) [1, 2, 3, 4] rfl), (by omega), (by omega), ⟨(by first | (with_reducible assumption) | omega | rfl | fail), (by first | (with_reducible assumption) | omega | rfl | fail), (by first | (with_reducible assumption) | omega | rfl | fail), (by first | (with_reducible assumption) | omega | rfl | fail), (by first | assumption | fail | omega), (by first | (with_reducible assumption) | omega | rfl | fail), (by first | (with_reducible assumption) | omega | rfl | fail), (by first | (with_reducible assumption) | omega | rfl | fail), (by first | (with_reducible assumption) | omega | rfl | fail), (by first | (with_reducible assumption) | omega | rfl | fail), (by first | (with_reducible assumption) | omega | rfl | fail), (by first | assumption | fail | omega), (by first | assumption | fail | omega), (by first | assumption | fail | omega), (by first | assumption | fail | omega)⟩⟩⟩ rfl rfl hl.1 rfl (lv_room (Nat.le_of_ble_eq_true rfl)) dX11_notification_103 ⟨by rw [hRc]; omega, by rw [hRs]; omega⟩) hh_14.1 (fun q _ h => h) (fun q h => h) (fun u_47 t_47 H_47 locs_47 ht_47 hvm_47 hr_48 hb_47 hz_47 hk_47 hS_47 => ?_)
            obtain ⟨qc_47, qa_47, m_qa_47, qph_47, qw_47, qtd_47, G_47⟩ := u_47
            rw [ht_47] at hb_47
            simp only at hb_47
            obtain ⟨⟨hb_471, hb_472, hb_473, hb_474, hb_475, hb_476⟩, hgq_47_0, hN_47, hbO_47, hbE_47⟩ := hb_47
            have hE9_47 := hN_47
            have hY_47 := hN_47
            have hN_47 : (jNk [0, 1, 4, 5, 6, 7, 8, 9, 11, 12, 13, 14, 15, 16]) G0 G_47 := hN_47.sub (by decide)
            have hh_47 : jSt (dC, dI) B base G0 G_47 EX11_notificationU s.heap (0 + ((m_qa_47 - n_pa) / 16)) (0 + (2 * (m_qa_47 - n_pa))) [(bo, 2, 1, .int qc_47), (bo, 2, 0, .ref qa_47), (r0, 13, 4, .ref bo), (r0, 13, 3, .ref ou), (r0, 13, 1, .ref fm), (fm, 4, 1, .int fl), (r0, 13, 7, .ref op), (r0, 13, 2, .ref js), (js, 6, 7, .int pv), (js, 6, 8, .int pu), (js, 6, 0, .ref wk), (js, 6, 1, .ref wi), (js, 6, 2, .ref wz), (js, 6, 3, .ref jnx), (js, 6, 4, .ref jkf), (js, 6, 5, .ref jks), (js, 6, 6, .ref jun), (r0, 13, 15, .ref sp), (r0, 13, 11, .int pz), (fm, 4, 4, .int br)] [(wk, 140, 1502, ca 1, fk), (wi, 141, 1502, ca 1, fi), (wz, 142, 1502, ca 1, fz), (jnx, 143, 1502, ca 1, fn), (jkf, 144, 1502, ca 1, fa), (jks, 145, 1502, ca 1, fs), (jun, 146, 3000, ca 1, fu)] [] H_47 locs_47 := (hh_14.callG hb_471 hb_472 hb_473 hb_474 hb_475 hS_47 rfl (L1 := [(r0, 13, 4, .ref bo), (r0, 13, 3, .ref ou), (r0, 13, 1, .ref fm), (fm, 4, 1, .int fl), (r0, 13, 7, .ref op), (r0, 13, 2, .ref js), (js, 6, 7, .int pv), (js, 6, 8, .int pu), (js, 6, 0, .ref wk), (js, 6, 1, .ref wi), (js, 6, 2, .ref wz), (js, 6, 3, .ref jnx), (js, 6, 4, .ref jkf), (js, 6, 5, .ref jks), (js, 6, 6, .ref jun), (r0, 13, 15, .ref sp), (r0, 13, 11, .int pz), (fm, 4, 4, .int br)]) [0, 3, 4, 5, 6, 8, 9, 10, 11, 12, 13, 14, 15, 16, 17, 18, 19, 20] rfl rfl (M1 := [(wk, 140, 1502, ca 1, fk), (wi, 141, 1502, ca 1, fi), (wz, 142, 1502, ca 1, fz), (jnx, 143, 1502, ca 1, fn), (jkf, 144, 1502, ca 1, fa), (jks, 145, 1502, ca 1, fs), (jun, 146, 3000, ca 1, fu)]) [0, 1, 2, 3, 4, 5, 6] rfl rfl (I1 := []) [] rfl rfl).more hb_476
            have hNn_47 : (jNk [0, 1, 4, 5, 6, 7, 8, 9, 11, 12, 13, 14, 15, 16]) G0 G_47 := (jNk.rf).tr hN_47
            have hg_49 := hb_472 _ _ hg_r0
            have hg_50 := hb_472 _ _ hg_bo
            have hg_51 := hb_472 _ _ hg_ou
            have hg_52 := hb_472 _ _ hg_fm
            have hg_53 := hb_472 _ _ hg_op
            have hg_54 := hb_472 _ _ hg_js
            have hg_55 := hb_472 _ _ hg_wk
            have hg_56 := hb_472 _ _ hg_wi
            have hg_57 := hb_472 _ _ hg_wz
            have hg_58 := hb_472 _ _ hg_jnx
            have hg_59 := hb_472 _ _ hg_jkf
            have hg_60 := hb_472 _ _ hg_jks
            have hg_61 := hb_472 _ _ hg_jun
            have hg_62 := hb_472 _ _ hg_sp
            have hh_63 := hh_47.addIs hbE_47
            have hd_64 := jOl.trL (hh_14.iv 0 rfl) hh_14.2.2.2.2.1 hbO_47 (by simp)
            have hh_65 := hh_63.addI (jOl.ie (dC := dC) (dI := dI) (G0 := G0) (k := 2) (rs := [bo, ou]) (H0 := s.heap) (F := [(2, 0), (2, 1)]) (C := RX0) (T := TX0) (N := 2) rfl (by decide) hh_63.2.2.2.2.1 (hd_64))
            clear hh_63
            try simp only at hr_48
            obtain ⟨hr_48_0, hr_48_1, hr_48_2, hr_48_3, hr_48_4, hr_48_5, hr_48_6, hr_48_7⟩ := hr_48
            refine lv_goto (tgt := 127) hx hb dX11_notification_106 (by decide) ?_
            have hfi9 : jdIv qtd_47 qw_47 := hr_48_6
            have hfn9 : jdNt T9 pv.toInt pz.toInt br.toInt (br.toInt) (jdCs tq wl) (jdCs qtd_47 qw_47) := jdNt.n hm9 (by rw [← hr_5p_1]; omega) (by omega) (hr_48_7.trans (jdNo.l hm9 (by omega) (by rw [← hr_9p_1]; omega) (by rw [← hr_12p_1]; omega) (by rw [← hr_15p_1]; omega)).symm)
            try clear hsz_47 htt_47 hrc_47 hrs_47
            have hsz_66 := hh_65.2.2.2.2.2.1
            have htt_66 := hh_65.2.2.2.2.2.2.1
            refine W.room (fun hrc_66 hrs_66 => ?_)
            refine W.widen (k := LC - s.heap.size) (n := LS - jTot s.heap) (by omega) (by omega) ?_
            rw [hQ]
            exact W.vret hx hb hr (fun t ht hW => ⟨⟨(qc_47, br, qa_47, m_qa_47, qph_47, qw_47, qtd_47, G_47), rfl, by (try dsimp only); exact ⟨(by first | (with_reducible assumption) | omega | rfl | fail), (by first | (with_reducible assumption) | omega | rfl | fail), (by first | (with_reducible assumption) | omega | rfl | fail), (by first | (with_reducible assumption) | omega | rfl | fail), (by first | assumption | fail | omega), (by first | (with_reducible assumption) | omega | rfl | fail), (by first | assumption | fail | omega), (by first | assumption | fail | omega)⟩, ⟨hh_65.ra (by first | (simp only; omega) | omega) (by first | (simp only; omega) | omega) (M1 := [(bo, 2, 1, .int qc_47), (fm, 4, 4, .int br), (bo, 2, 0, .ref qa_47)]) [0, 19, 1] rfl ht, hgq_47_0, hNn_47, by rw [ht]; exact hh_65.iv 0 rfl, by rw [ht]; exact hh_65.2.2.2.2.2.2.2.2.sub (L1 := [(jFy, jYb dC dI G_47), (jFl, jLs dC dI ca G_47 3 none qw_47), (jFdo, jDcc dC dI ca G_47 none qph_47), (jFcd, jCD dC dI ca G_47 none qtd_47)]) [1, 2, 3, 4] rfl⟩⟩, by rw [ht]; try exact hh_65.1.1, fun q h9 hq => by rw [ht]; try exact hh_65.1.2.1 q h9 hq⟩) hh_65.1.2.2 dX11_notification_127
        · skip
          have c_13' : r_12.toInt ≠ 0 := jb_eq_n (rfl) ((by decide)) c_13
          first | (have hr_12p_0q := hr_12p_0.resolve_left (by omega); clear hr_12p_0) | (have hr_12p_0q := hr_12p_0.resolve_right (by omega); clear hr_12p_0) | try clear hr_12p_0
          first | (have hr_3_2q := hr_3_2.resolve_left (by omega); clear hr_3_2) | (have hr_3_2q := hr_3_2.resolve_right (by omega); clear hr_3_2) | skip
          have hmg := jMh.mg (m := r_3.toInt) hp11 (by omega) (by omega) (by omega) (by omega) (by omega : jSo fz r_3.toInt = 22)
          refine lv_aload_n hx hb dX11_notification_81 rfl (lv_at hl 1 rfl) ?_
          try clear hsz_11 htt_11 hrc_11 hrs_11
          have hsz_67 := hh_11.2.2.2.2.2.1
          have htt_67 := hh_11.2.2.2.2.2.2.1
          refine W.room (fun hrc_67 hrs_67 => ?_)
          refine va_callv (A0 := jA base) (H0 := s.heap) (va_runV (As := []) (rest := []) ⟨hx, hb, hml, hown, hts⟩ (uX11_changeDocumentU l dC dI ca base B hB hAp hB1 hB2 hB3 hB4 hB6 hB7 hB8 hB10 hB11 hB12 hB13 hB101 hB102 hB132 hB133 hB140 hB141 hB142 hB143 hB144 hB145 hB146 hB171 hB172 hB173 hB174 hB196 hB210 hB212 hB221 hB222 hB293 G0 H_11 r0 bo pc pa n_pa ou fm fl op sz js pv pu wk wi wz jnx jkf jks jun sp n_sp (ph) wl T9 tq fk fi fz fn fa fs fu LC LS) (cwV 0 hts (jgV (jWr_41 _ (List.mem_of_getElem? (i := 4) rfl)) (jWr_41 _ (List.mem_of_getElem? (i := 5) rfl)) (jWr_41 _ (List.mem_of_getElem? (i := 6) rfl)) (jWr_1 _ (List.mem_of_getElem? (i := 2) rfl)) (jWr_41 _ (List.mem_of_getElem? (i := 7) rfl))) rfl rfl rfl (by decide +kernel) ⟨by rw [← hR]; exact Nat.le_of_ble_eq_true rfl, by rw [← hR]; exact Nat.le_of_ble_eq_true rfl⟩) ⟨fun a U g mk q => by obtain ⟨q0, q1, q2, qK, q10, q11, q12, q13, q14, q15, q16, q17, q18, q19, q20, q21, q22, q23, q24, q25, q26, q27, q28, q29, q30, q31, q32⟩ := q; exact ⟨q0, q1, q2, jG.calling g mk a qK, (va_K.moved (Vm.Alike.refl U.vm) q10), (jK5.moved (Vm.Alike.refl U.vm) q11), (jK6.moved (Vm.Alike.refl U.vm) q12), (jK7.calling g mk a q13), q14, q15, q16, q17, q18, q19, q20, q21, q22, q23, q24, q25, q26, q27, q28, q29, q30, q31, q32⟩, hh_11.recv (C := RX11) (T := TX11) (N := 19) hB13 rfl (by decide) hg_r0 hK, fun U hU hW => ⟨rfl, hU, hh_11.2.1, hG.step hW hU hh_11.1, va_K.moved hW.alike hK2, jK5.moved hW.alike hK5, jK6.moved hW.alike hK6, (hK7.step hW hU hh_11.1), hg_r0, hg_bo, hg_pa, hg_ou, hg_fm, hg_op, hg_js, hg_wk, hg_wi, hg_wz, hg_jnx, hg_jkf, hg_jks, hg_jun, hg_sp, (hh_11.2.2.1.sub (L1 := [(r0, 13, 4, .ref bo), (bo, 2, 1, .int pc), (bo, 2, 0, .ref pa), (r0, 13, 3, .ref ou), (r0, 13, 1, .ref fm), (fm, 4, 1, .int fl), (r0, 13, 7, .ref op), (op, 1, 2, .int sz), (r0, 13, 2, .ref js), (js, 6, 7, .int pv), (js, 6, 8, .int pu), (js, 6, 0, .ref wk), (js, 6, 1, .ref wi), (js, 6, 2, .ref wz), (js, 6, 3, .ref jnx), (js, 6, 4, .ref jkf), (js, 6, 5, .ref jks), (js, 6, 6, .ref jun), (r0, 13, 15, .ref sp)]) [0, 1, 2, 3, 4, 5, 6, 7, 8, 9, 10, 11, 12, 13, 14, 15, 16, 17, 18] rfl), (hh_11.2.2.2.2.2.2.2.1.sub (L1 := [(wk, 140, 1502, ca 1, fk), (wi, 141, 1502, ca 1, fi), (wz, 142, 1502, ca 1, fz), (jnx, 143, 1502, ca 1, fn), (jkf, 144, 1502, ca 1, fa), (jks, 145, 1502, ca 1, fs), (jun, 146, 3000, ca 1, fu)]) [0, 1, 2, 3, 4, 5, 6] rfl), (hh_11.2.2.2.2.2.2.2.2.sub (L1 := [(jFy, jYb dC dI G0), (jFl, jLs dC dI ca G0 3 none wl), (jFdo, jDcc dC dI ca G0 none ph), (jFcd, jCD dC dI ca G0 none tq)]) [1, 2, 3, 4] rfl), (by omega), (by omega), ⟨(by first | (with_reducible assumption) | omega | rfl | fail), (by first | (with_reducible assumption) | omega | rfl | fail), (by first | (with_reducible assumption) | omega | rfl | fail), (by first | (with_reducible assumption) | omega | rfl | fail), (by first | assumption | fail | omega), (by first | (with_reducible assumption) | omega | rfl | fail), (by first | (with_reducible assumption) | omega | rfl | fail), (by first | (with_reducible assumption) | omega | rfl | fail), (by first | (with_reducible assumption) | omega | rfl | fail), (by first | assumption | fail | omega), (by first | assumption | fail | omega), (by first | assumption | fail | omega), (by first | (with_reducible assumption) | omega | rfl | fail), (by first | (with_reducible assumption) | omega | rfl | fail), (by first | (with_reducible assumption) | omega | rfl | fail), (by first | assumption | fail | omega), (by first | assumption | fail | omega), (by first | assumption | fail | omega), (by first | assumption | fail | omega), (by first | (with_reducible assumption) | omega | rfl | fail)⟩⟩⟩ rfl rfl hl.1 rfl (lv_room (Nat.le_of_ble_eq_true rfl)) dX11_notification_82 ⟨by rw [hRc]; omega, by rw [hRs]; omega⟩) hh_11.1 (fun q _ h => h) (fun q h => h) (fun u_67 t_67 H_67 locs_67 ht_67 hvm_67 hr_68 hb_67 hz_67 hk_67 hS_67 => ?_)
          obtain ⟨qc_67, qa_67, m_qa_67, qph_67, qtd_67, G_67⟩ := u_67
          rw [ht_67] at hb_67
          simp only at hb_67
          obtain ⟨⟨hb_671, hb_672, hb_673, hb_674, hb_675, hb_676⟩, hgq_67_0, hN_67, hbO_67, hbE_67⟩ := hb_67
          have hE9_67 := hN_67
          have hY_67 := hN_67
          have hN_67 : (jNk [0, 1, 4, 5, 6, 7, 8, 9, 11, 12, 13, 14, 15, 16]) G0 G_67 := hN_67.sub (by decide)
          have hh_67 : jSt (dC, dI) B base G0 G_67 EX11_notificationU s.heap (0 + ((m_qa_67 - n_pa) / 16 + ((ph) + 200 * (fl.toInt : Int).toNat - qph_67) / 16)) (0 + (2 * (m_qa_67 - n_pa) + ((ph) + 200 * (fl.toInt : Int).toNat - qph_67))) [(bo, 2, 1, .int qc_67), (bo, 2, 0, .ref qa_67), (r0, 13, 4, .ref bo), (r0, 13, 3, .ref ou), (r0, 13, 1, .ref fm), (fm, 4, 1, .int fl), (r0, 13, 7, .ref op), (r0, 13, 2, .ref js), (js, 6, 7, .int pv), (js, 6, 8, .int pu), (js, 6, 0, .ref wk), (js, 6, 1, .ref wi), (js, 6, 2, .ref wz), (js, 6, 3, .ref jnx), (js, 6, 4, .ref jkf), (js, 6, 5, .ref jks), (js, 6, 6, .ref jun), (r0, 13, 15, .ref sp), (r0, 13, 11, .int pz), (fm, 4, 4, .int br)] [(wk, 140, 1502, ca 1, fk), (wi, 141, 1502, ca 1, fi), (wz, 142, 1502, ca 1, fz), (jnx, 143, 1502, ca 1, fn), (jkf, 144, 1502, ca 1, fa), (jks, 145, 1502, ca 1, fs), (jun, 146, 3000, ca 1, fu)] [] H_67 locs_67 := (hh_11.callG hb_671 hb_672 hb_673 hb_674 hb_675 hS_67 rfl (L1 := [(r0, 13, 4, .ref bo), (r0, 13, 3, .ref ou), (r0, 13, 1, .ref fm), (fm, 4, 1, .int fl), (r0, 13, 7, .ref op), (r0, 13, 2, .ref js), (js, 6, 7, .int pv), (js, 6, 8, .int pu), (js, 6, 0, .ref wk), (js, 6, 1, .ref wi), (js, 6, 2, .ref wz), (js, 6, 3, .ref jnx), (js, 6, 4, .ref jkf), (js, 6, 5, .ref jks), (js, 6, 6, .ref jun), (r0, 13, 15, .ref sp), (r0, 13, 11, .int pz), (fm, 4, 4, .int br)]) [0, 3, 4, 5, 6, 8, 9, 10, 11, 12, 13, 14, 15, 16, 17, 18, 19, 20] rfl rfl (M1 := [(wk, 140, 1502, ca 1, fk), (wi, 141, 1502, ca 1, fi), (wz, 142, 1502, ca 1, fz), (jnx, 143, 1502, ca 1, fn), (jkf, 144, 1502, ca 1, fa), (jks, 145, 1502, ca 1, fs), (jun, 146, 3000, ca 1, fu)]) [0, 1, 2, 3, 4, 5, 6] rfl rfl (I1 := []) [] rfl rfl).more hb_676
          have hNn_67 : (jNk [0, 1, 4, 5, 6, 7, 8, 9, 11, 12, 13, 14, 15, 16]) G0 G_67 := (jNk.rf).tr hN_67
          have hg_69 := hb_672 _ _ hg_r0
          have hg_70 := hb_672 _ _ hg_bo
          have hg_71 := hb_672 _ _ hg_ou
          have hg_72 := hb_672 _ _ hg_fm
          have hg_73 := hb_672 _ _ hg_op
          have hg_74 := hb_672 _ _ hg_js
          have hg_75 := hb_672 _ _ hg_wk
          have hg_76 := hb_672 _ _ hg_wi
          have hg_77 := hb_672 _ _ hg_wz
          have hg_78 := hb_672 _ _ hg_jnx
          have hg_79 := hb_672 _ _ hg_jkf
          have hg_80 := hb_672 _ _ hg_jks
          have hg_81 := hb_672 _ _ hg_jun
          have hg_82 := hb_672 _ _ hg_sp
          have hh_83 := hh_67.addIs hbE_67
          have hd_84 := jOl.trL (hh_11.iv 0 rfl) hh_11.2.2.2.2.1 hbO_67 (by simp)
          have hh_85 := hh_83.addI (jOl.ie (dC := dC) (dI := dI) (G0 := G0) (k := 2) (rs := [bo, ou]) (H0 := s.heap) (F := [(2, 0), (2, 1)]) (C := RX0) (T := TX0) (N := 2) rfl (by decide) hh_83.2.2.2.2.1 (hd_84))
          clear hh_83
          try simp only at hr_68
          obtain ⟨hr_68_0, hr_68_1, hr_68_2, hr_68_3, hr_68_4, hr_68_5, hr_68_6, hr_68_7⟩ := hr_68
          refine lv_goto (tgt := 127) hx hb dX11_notification_85 (by decide) ?_
          have hfi9 : jdIv qtd_67 wl := hr_68_6
          have hfn9 : jdNt T9 pv.toInt pz.toInt br.toInt (br.toInt) (jdCs tq wl) (jdCs qtd_67 wl) := jdNt.n hm9 (by rw [← hr_5p_1]; omega) (by omega) (hr_68_7.trans (jdNo.c hm9 (by omega) (by rw [← hr_9p_1]; omega) (by rw [← hr_12p_1]; omega)).symm)
          try clear hsz_67 htt_67 hrc_67 hrs_67
          have hsz_86 := hh_85.2.2.2.2.2.1
          have htt_86 := hh_85.2.2.2.2.2.2.1
          refine W.room (fun hrc_86 hrs_86 => ?_)
          refine W.widen (k := LC - s.heap.size) (n := LS - jTot s.heap) (by omega) (by omega) ?_
          rw [hQ]
          exact W.vret hx hb hr (fun t ht hW => ⟨⟨(qc_67, br, qa_67, m_qa_67, qph_67, wl, qtd_67, G_67), rfl, by (try dsimp only); exact ⟨(by first | (with_reducible assumption) | omega | rfl | fail), (by first | (with_reducible assumption) | omega | rfl | fail), (by first | (with_reducible assumption) | omega | rfl | fail), (by first | (with_reducible assumption) | omega | rfl | fail), (by first | assumption | fail | omega), (by first | (with_reducible assumption) | omega | rfl | fail), (by first | assumption | fail | omega), (by first | assumption | fail | omega)⟩, ⟨hh_85.ra (by first | (simp only; omega) | omega) (by first | (simp only; omega) | omega) (M1 := [(bo, 2, 1, .int qc_67), (fm, 4, 4, .int br), (bo, 2, 0, .ref qa_67)]) [0, 19, 1] rfl ht, hgq_67_0, hNn_67, by rw [ht]; exact hh_85.iv 0 rfl, by rw [ht]; exact hh_85.2.2.2.2.2.2.2.2.sub (L1 := [(jFy, jYb dC dI G_67), (jFl, jLs dC dI ca G_67 3 none wl), (jFdo, jDcc dC dI ca G_67 none qph_67), (jFcd, jCD dC dI ca G_67 none qtd_67)]) [1, 2, 3, 4] rfl⟩⟩, by rw [ht]; try exact hh_85.1.1, fun q h9 hq => by rw [ht]; try exact hh_85.1.2.1 q h9 hq⟩) hh_85.1.2.2 dX11_notification_127
      · skip
        have c_10' : r_9.toInt ≠ 0 := jb_eq_n (rfl) ((by decide)) c_10
        first | (have hr_9p_0q := hr_9p_0.resolve_left (by omega); clear hr_9p_0) | (have hr_9p_0q := hr_9p_0.resolve_right (by omega); clear hr_9p_0) | try clear hr_9p_0
        first | (have hr_3_2q := hr_3_2.resolve_left (by omega); clear hr_3_2) | (have hr_3_2q := hr_3_2.resolve_right (by omega); clear hr_3_2) | skip
        have hmg := jMh.mg (m := r_3.toInt) hp11 (by omega) (by omega) (by omega) (by omega) (by omega : jSo fz r_3.toInt = 20)
        refine lv_aload_n hx hb dX11_notification_60 rfl (lv_at hl 1 rfl) ?_
        try clear hsz_8 htt_8 hrc_8 hrs_8
        have hsz_87 := hh_8.2.2.2.2.2.1
        have htt_87 := hh_8.2.2.2.2.2.2.1
        refine W.room (fun hrc_87 hrs_87 => ?_)
        refine va_callv (A0 := jA base) (H0 := s.heap) (va_runV (As := []) (rest := []) ⟨hx, hb, hml, hown, hts⟩ (uX11_openDocumentU l dC dI ca base B hB hAp hB1 hB2 hB3 hB4 hB6 hB7 hB8 hB10 hB11 hB12 hB13 hB101 hB102 hB132 hB133 hB140 hB141 hB142 hB143 hB144 hB145 hB146 hB171 hB172 hB173 hB174 hB196 hB210 hB221 hB222 hB293 G0 H_8 r0 bo pc pa n_pa ou fm fl op sz js pv pu wk wi wz jnx jkf jks jun (ph) wl T9 tq fk fi fz fn fa fs fu LC LS) (cwV 0 hts (jgV (jWr_35 _ (List.mem_of_getElem? (i := 11) rfl)) (jWr_35 _ (List.mem_of_getElem? (i := 12) rfl)) (jWr_35 _ (List.mem_of_getElem? (i := 13) rfl)) (jWr_1 _ (List.mem_of_getElem? (i := 2) rfl)) (jWr_35 _ (List.mem_of_getElem? (i := 14) rfl))) rfl rfl rfl (by decide +kernel) ⟨by rw [← hR]; exact Nat.le_of_ble_eq_true rfl, by rw [← hR]; exact Nat.le_of_ble_eq_true rfl⟩) ⟨fun a U g mk q => by obtain ⟨q0, q1, q2, qK, q10, q11, q12, q13, q14, q15, q16, q17, q18, q19, q20, q21, q22, q23, q24, q25, q26, q27, q28, q29, q30, q31⟩ := q; exact ⟨q0, q1, q2, jG.calling g mk a qK, (va_K.moved (Vm.Alike.refl U.vm) q10), (jK5.moved (Vm.Alike.refl U.vm) q11), (jK6.moved (Vm.Alike.refl U.vm) q12), (jK7.calling g mk a q13), q14, q15, q16, q17, q18, q19, q20, q21, q22, q23, q24, q25, q26, q27, q28, q29, q30, q31⟩, hh_8.recv (C := RX11) (T := TX11) (N := 19) hB13 rfl (by decide) hg_r0 hK, fun U hU hW => ⟨rfl, hU, hh_8.2.1, hG.step hW hU hh_8.1, va_K.moved hW.alike hK2, jK5.moved hW.alike hK5, jK6.moved hW.alike hK6, (hK7.step hW hU hh_8.1), hg_r0, hg_bo, hg_pa, hg_ou, hg_fm, hg_op, hg_js, hg_wk, hg_wi, hg_wz, hg_jnx, hg_jkf, hg_jks, hg_jun, (hh_8.2.2.1.sub (L1 := [(r0, 13, 4, .ref bo), (bo, 2, 1, .int pc), (bo, 2, 0, .ref pa), (r0, 13, 3, .ref ou), (r0, 13, 1, .ref fm), (fm, 4, 1, .int fl), (r0, 13, 7, .ref op), (op, 1, 2, .int sz), (r0, 13, 2, .ref js), (js, 6, 7, .int pv), (js, 6, 8, .int pu), (js, 6, 0, .ref wk), (js, 6, 1, .ref wi), (js, 6, 2, .ref wz), (js, 6, 3, .ref jnx), (js, 6, 4, .ref jkf), (js, 6, 5, .ref jks), (js, 6, 6, .ref jun)]) [0, 1, 2, 3, 4, 5, 6, 7, 8, 9, 10, 11, 12, 13, 14, 15, 16, 17] rfl), (hh_8.2.2.2.2.2.2.2.1.sub (L1 := [(wk, 140, 1502, ca 1, fk), (wi, 141, 1502, ca 1, fi), (wz, 142, 1502, ca 1, fz), (jnx, 143, 1502, ca 1, fn), (jkf, 144, 1502, ca 1, fa), (jks, 145, 1502, ca 1, fs), (jun, 146, 3000, ca 1, fu)]) [0, 1, 2, 3, 4, 5, 6] rfl), (hh_8.2.2.2.2.2.2.2.2.sub (L1 := [(jFy, jYb dC dI G0), (jFl, jLs dC dI ca G0 3 none wl), (jFdo, jDcc dC dI ca G0 none ph), (jFcd, jCD dC dI ca G0 none tq)]) [1, 2, 3, 4] rfl), (by omega), (by omega), ⟨(by first | (with_reducible assumption) | omega | rfl | fail), (by first | (with_reducible assumption) | omega | rfl | fail), (by first | (with_reducible assumption) | omega | rfl | fail), (by first | (with_reducible assumption) | omega | rfl | fail), (by first | assumption | fail | omega), (by first | (with_reducible assumption) | omega | rfl | fail), (by first | (with_reducible assumption) | omega | rfl | fail), (by first | (with_reducible assumption) | omega | rfl | fail), (by first | (with_reducible assumption) | omega | rfl | fail), (by first | assumption | fail | omega), (by first | assumption | fail | omega), (by first | assumption | fail | omega), (by first | (with_reducible assumption) | omega | rfl | fail), (by first | (with_reducible assumption) | omega | rfl | fail), (by first | (with_reducible assumption) | omega | rfl | fail), (by first | assumption | fail | omega), (by first | assumption | fail | omega), (by first | assumption | fail | omega), (by first | assumption | fail | omega)⟩⟩⟩ rfl rfl hl.1 rfl (lv_room (Nat.le_of_ble_eq_true rfl)) dX11_notification_61 ⟨by rw [hRc]; omega, by rw [hRs]; omega⟩) hh_8.1 (fun q _ h => h) (fun q h => h) (fun u_87 t_87 H_87 locs_87 ht_87 hvm_87 hr_88 hb_87 hz_87 hk_87 hS_87 => ?_)
        obtain ⟨qc_87, qa_87, m_qa_87, qph_87, qw_87, qtd_87, G_87⟩ := u_87
        rw [ht_87] at hb_87
        simp only at hb_87
        obtain ⟨⟨hb_871, hb_872, hb_873, hb_874, hb_875, hb_876⟩, hgq_87_0, hN_87, hbO_87, hbE_87⟩ := hb_87
        have hY_87 := hN_87
        have hN_87 : (jNk [0, 1, 4, 5, 6, 7, 8, 9, 11, 12, 13, 14, 15, 16]) G0 G_87 := hN_87.sub (by decide)
        have hh_87 : jSt (dC, dI) B base G0 G_87 EX11_notificationU s.heap (0 + ((m_qa_87 - n_pa) / 16 + ((ph) + 200 * (fl.toInt : Int).toNat - qph_87) / 16)) (0 + (2 * (m_qa_87 - n_pa) + ((ph) + 200 * (fl.toInt : Int).toNat - qph_87))) [(bo, 2, 1, .int qc_87), (bo, 2, 0, .ref qa_87), (r0, 13, 4, .ref bo), (r0, 13, 3, .ref ou), (r0, 13, 1, .ref fm), (fm, 4, 1, .int fl), (r0, 13, 7, .ref op), (r0, 13, 2, .ref js), (js, 6, 7, .int pv), (js, 6, 8, .int pu), (js, 6, 0, .ref wk), (js, 6, 1, .ref wi), (js, 6, 2, .ref wz), (js, 6, 3, .ref jnx), (js, 6, 4, .ref jkf), (js, 6, 5, .ref jks), (js, 6, 6, .ref jun), (r0, 13, 15, .ref sp), (r0, 13, 11, .int pz), (fm, 4, 4, .int br)] [(wk, 140, 1502, ca 1, fk), (wi, 141, 1502, ca 1, fi), (wz, 142, 1502, ca 1, fz), (jnx, 143, 1502, ca 1, fn), (jkf, 144, 1502, ca 1, fa), (jks, 145, 1502, ca 1, fs), (jun, 146, 3000, ca 1, fu)] [] H_87 locs_87 := (hh_8.callG hb_871 hb_872 hb_873 hb_874 hb_875 hS_87 rfl (L1 := [(r0, 13, 4, .ref bo), (r0, 13, 3, .ref ou), (r0, 13, 1, .ref fm), (fm, 4, 1, .int fl), (r0, 13, 7, .ref op), (r0, 13, 2, .ref js), (js, 6, 7, .int pv), (js, 6, 8, .int pu), (js, 6, 0, .ref wk), (js, 6, 1, .ref wi), (js, 6, 2, .ref wz), (js, 6, 3, .ref jnx), (js, 6, 4, .ref jkf), (js, 6, 5, .ref jks), (js, 6, 6, .ref jun), (r0, 13, 15, .ref sp), (r0, 13, 11, .int pz), (fm, 4, 4, .int br)]) [0, 3, 4, 5, 6, 8, 9, 10, 11, 12, 13, 14, 15, 16, 17, 18, 19, 20] rfl rfl (M1 := [(wk, 140, 1502, ca 1, fk), (wi, 141, 1502, ca 1, fi), (wz, 142, 1502, ca 1, fz), (jnx, 143, 1502, ca 1, fn), (jkf, 144, 1502, ca 1, fa), (jks, 145, 1502, ca 1, fs), (jun, 146, 3000, ca 1, fu)]) [0, 1, 2, 3, 4, 5, 6] rfl rfl (I1 := []) [] rfl rfl).more hb_876
        have hNn_87 : (jNk [0, 1, 4, 5, 6, 7, 8, 9, 11, 12, 13, 14, 15, 16]) G0 G_87 := (jNk.rf).tr hN_87
        have hg_89 := hb_872 _ _ hg_r0
        have hg_90 := hb_872 _ _ hg_bo
        have hg_91 := hb_872 _ _ hg_ou
        have hg_92 := hb_872 _ _ hg_fm
        have hg_93 := hb_872 _ _ hg_op
        have hg_94 := hb_872 _ _ hg_js
        have hg_95 := hb_872 _ _ hg_wk
        have hg_96 := hb_872 _ _ hg_wi
        have hg_97 := hb_872 _ _ hg_wz
        have hg_98 := hb_872 _ _ hg_jnx
        have hg_99 := hb_872 _ _ hg_jkf
        have hg_100 := hb_872 _ _ hg_jks
        have hg_101 := hb_872 _ _ hg_jun
        have hg_102 := hb_872 _ _ hg_sp
        have hh_103 := hh_87.addIs hbE_87
        have hd_104 := jOl.trL (hh_8.iv 0 rfl) hh_8.2.2.2.2.1 hbO_87 (by simp)
        have hh_105 := hh_103.addI (jOl.ie (dC := dC) (dI := dI) (G0 := G0) (k := 2) (rs := [bo, ou]) (H0 := s.heap) (F := [(2, 0), (2, 1)]) (C := RX0) (T := TX0) (N := 2) rfl (by decide) hh_103.2.2.2.2.1 (hd_104))
        clear hh_103
        try simp only at hr_88
        obtain ⟨hr_88_0, hr_88_1, hr_88_2, hr_88_3, hr_88_4, hr_88_5, hr_88_6, hr_88_7⟩ := hr_88
        refine lv_goto (tgt := 127) hx hb dX11_notification_64 (by decide) ?_
        have hfi9 : jdIv qtd_87 qw_87 := hr_88_6
        have hfn9 : jdNt T9 pv.toInt pz.toInt br.toInt (br.toInt) (jdCs tq wl) (jdCs qtd_87 qw_87) := jdNt.n hm9 (by rw [← hr_5p_1]; omega) (by omega) (hr_88_7.trans (jdNo.o hm9 (by omega) (by rw [← hr_9p_1]; omega)).symm)
        try clear hsz_87 htt_87 hrc_87 hrs_87
        have hsz_106 := hh_105.2.2.2.2.2.1
        have htt_106 := hh_105.2.2.2.2.2.2.1
        refine W.room (fun hrc_106 hrs_106 => ?_)
        refine W.widen (k := LC - s.heap.size) (n := LS - jTot s.heap) (by omega) (by omega) ?_
        rw [hQ]
        exact W.vret hx hb hr (fun t ht hW => ⟨⟨(qc_87, br, qa_87, m_qa_87, qph_87, qw_87, qtd_87, G_87), rfl, by (try dsimp only); exact ⟨(by first | (with_reducible assumption) | omega | rfl | fail), (by first | (with_reducible assumption) | omega | rfl | fail), (by first | (with_reducible assumption) | omega | rfl | fail), (by first | (with_reducible assumption) | omega | rfl | fail), (by first | assumption | fail | omega), (by first | (with_reducible assumption) | omega | rfl | fail), (by first | assumption | fail | omega), (by first | assumption | fail | omega)⟩, ⟨hh_105.ra (by first | (simp only; omega) | omega) (by first | (simp only; omega) | omega) (M1 := [(bo, 2, 1, .int qc_87), (fm, 4, 4, .int br), (bo, 2, 0, .ref qa_87)]) [0, 19, 1] rfl ht, hgq_87_0, hNn_87, by rw [ht]; exact hh_105.iv 0 rfl, by rw [ht]; exact hh_105.2.2.2.2.2.2.2.2.sub (L1 := [(jFy, jYb dC dI G_87), (jFl, jLs dC dI ca G_87 3 none qw_87), (jFdo, jDcc dC dI ca G_87 none qph_87), (jFcd, jCD dC dI ca G_87 none qtd_87)]) [1, 2, 3, 4] rfl⟩⟩, by rw [ht]; try exact hh_105.1.1, fun q h9 hq => by rw [ht]; try exact hh_105.1.2.1 q h9 hq⟩) hh_105.1.2.2 dX11_notification_127
    · skip
      have c_7' : pz.toInt ≠ 1 := jb_eq_n (rfl) ((by decide)) c_7
      have hfi9 : jdIv tq wl := hpIV
      have hfn9 : jdNt T9 pv.toInt pz.toInt br.toInt (br.toInt) (jdCs tq wl) (jdCs tq wl) := jdNt.n hm9 (by rw [← hr_5p_1]; omega) (by omega) ((jdNo.z (by omega)).symm)
      try clear hsz_4 htt_4 hrc_4 hrs_4
      have hsz_107 := hh_4.2.2.2.2.2.1
      have htt_107 := hh_4.2.2.2.2.2.2.1
      refine W.room (fun hrc_107 hrs_107 => ?_)
      refine W.widen (k := LC - s.heap.size) (n := LS - jTot s.heap) (by omega) (by omega) ?_
      rw [hQ]
      exact W.vret hx hb hr (fun t ht hW => ⟨⟨(pc, br, pa, n_pa, ph, wl, tq, G0), rfl, by (try dsimp only); exact ⟨(by first | (with_reducible assumption) | omega | rfl | fail), (by first | (with_reducible assumption) | omega | rfl | fail), (by first | (with_reducible assumption) | omega | rfl | fail), (by first | (with_reducible assumption) | omega | rfl | fail), (by first | assumption | fail | omega), (by first | (with_reducible assumption) | omega | rfl | fail), (by first | assumption | fail | omega), (by first | assumption | fail | omega)⟩, ⟨hh_4.ra (by first | (simp only; omega) | omega) (by first | (simp only; omega) | omega) (M1 := [(bo, 2, 1, .int pc), (fm, 4, 4, .int br), (bo, 2, 0, .ref pa)]) [1, 20, 2] rfl ht, hg_pa, jNk.rf, by rw [ht]; exact hh_4.iv 0 rfl, by rw [ht]; exact hh_4.2.2.2.2.2.2.2.2.sub (L1 := [(jFy, jYb dC dI G0), (jFl, jLs dC dI ca G0 3 none wl), (jFdo, jDcc dC dI ca G0 none ph), (jFcd, jCD dC dI ca G0 none tq)]) [1, 2, 3, 4] rfl⟩⟩, by rw [ht]; try exact hh_4.1.1, fun q h9 hq => by rw [ht]; try exact hh_4.1.2.1 q h9 hq⟩) hh_4.1.2.2 dX11_notification_45
  · skip
    have c_6' : r_5.toInt ≠ 0 := jb_eq_n (rfl) ((by decide)) c_6
    first | (have hr_5p_0q := hr_5p_0.resolve_left (by omega); clear hr_5p_0) | (have hr_5p_0q := hr_5p_0.resolve_right (by omega); clear hr_5p_0) | try clear hr_5p_0
    first | (have hr_3_2q := hr_3_2.resolve_left (by omega); clear hr_3_2) | (have hr_3_2q := hr_3_2.resolve_right (by omega); clear hr_3_2) | skip
    refine lv_aload_n hx hb dX11_notification_26 rfl (lv_at hl 1 rfl) ?_
    refine j7_read hx hb hown hK (C := RX11) (T := TX11) (N := 19) rfl hly_13_1 hlk_21 (hh_4.at 4 rfl) dX11_notification_27 ?_
    refine lv_iconst (v := 1) hx hb dX11_notification_30 (by decide) ?_
    refine j7_put hx hb hown hK hh_4 hB hAp hB4 (C := RX2) (T := TX2) (N := 12) rfl (by decide) hg_fm (i := 4) (by decide) hly_4_4 rfl hlk_102 rfl (ty := .boolean) (v := .int 1) (by decide +kernel) (jb_nz (Or.inr rfl)) (jb_fz (Or.inr rfl)) (⟨_, rfl, (Or.inr rfl)⟩) rfl (L1 := [(r0, 13, 4, .ref bo), (bo, 2, 1, .int pc), (bo, 2, 0, .ref pa), (r0, 13, 3, .ref ou), (r0, 13, 1, .ref fm), (fm, 4, 1, .int fl), (r0, 13, 7, .ref op), (op, 1, 2, .int sz), (r0, 13, 2, .ref js), (js, 6, 7, .int pv), (js, 6, 8, .int pu), (js, 6, 0, .ref wk), (js, 6, 1, .ref wi), (js, 6, 2, .ref wz), (js, 6, 3, .ref jnx), (js, 6, 4, .ref jkf), (js, 6, 5, .ref jks), (js, 6, 6, .ref jun), (r0, 13, 15, .ref sp), (r0, 13, 11, .int pz)]) [0, 1, 2, 3, 4, 5, 6, 7, 8, 9, 10, 11, 12, 13, 14, 15, 16, 17, 18, 19] rfl rfl rfl dX11_notification_31 (fun H_108 locs_108 hh_108 => ?_)
    clear hh_4
    refine lv_goto (tgt := 127) hx hb dX11_notification_34 (by decide) ?_
    have hfi9 : jdIv tq wl := hpIV
    have hfn9 : jdNt T9 pv.toInt pz.toInt br.toInt (1) (jdCs tq wl) (jdCs tq wl) := jdNt.y hm9 (by rw [← hr_5p_1]; omega) (by omega)
    try clear hsz_4 htt_4 hrc_4 hrs_4
    have hsz_109 := hh_108.2.2.2.2.2.1
    have htt_109 := hh_108.2.2.2.2.2.2.1
    refine W.room (fun hrc_109 hrs_109 => ?_)
    refine W.widen (k := LC - s.heap.size) (n := LS - jTot s.heap) (by omega) (by omega) ?_
    rw [hQ]
    exact W.vret hx hb hr (fun t ht hW => ⟨⟨(pc, 1, pa, n_pa, ph, wl, tq, G0), rfl, by (try dsimp only); exact ⟨(by first | (with_reducible assumption) | omega | rfl | fail), (by first | (with_reducible assumption) | omega | rfl | fail), (by first | (with_reducible assumption) | omega | rfl | fail), (by first | (with_reducible assumption) | omega | rfl | fail), (by first | assumption | fail | omega), (by first | (with_reducible assumption) | omega | rfl | fail), (by first | assumption | fail | omega), (by first | assumption | fail | omega)⟩, ⟨hh_108.ra (by first | (simp only; omega) | omega) (by first | (simp only; omega) | omega) (M1 := [(bo, 2, 1, .int pc), (fm, 4, 4, .int 1), (bo, 2, 0, .ref pa)]) [2, 0, 3] rfl ht, hg_pa, jNk.rf, by rw [ht]; exact hh_108.iv 0 rfl, by rw [ht]; exact hh_108.2.2.2.2.2.2.2.2.sub (L1 := [(jFy, jYb dC dI G0), (jFl, jLs dC dI ca G0 3 none wl), (jFdo, jDcc dC dI ca G0 none ph), (jFcd, jCD dC dI ca G0 none tq)]) [1, 2, 3, 4] rfl⟩⟩, by rw [ht]; try exact hh_108.1.1, fun q h9 hq => by rw [ht]; try exact hh_108.1.2.1 q h9 hq⟩) hh_108.1.2.2 dX11_notification_127
end
