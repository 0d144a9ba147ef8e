theorem dX11_cancelRequest_0 : decode cX11_cancelRequest 0 = .ok (.new 115, 3) := by decide +kernel
theorem dX11_cancelRequest_3 : decode cX11_cancelRequest 3 = .ok (.dup, 1) := by decide +kernel
theorem dX11_cancelRequest_4 : decode cX11_cancelRequest 4 = .ok (.aload_n 0, 1) := by decide +kernel
theorem dX11_cancelRequest_5 : decode cX11_cancelRequest 5 = .ok (.getfield 28, 3) := by decide +kernel
theorem dX11_cancelRequest_8 : decode cX11_cancelRequest 8 = .ok (.aload_n 0, 1) := by decide +kernel
theorem dX11_cancelRequest_9 : decode cX11_cancelRequest 9 = .ok (.getfield 28, 3) := by decide +kernel
theorem dX11_cancelRequest_12 : decode cX11_cancelRequest 12 = .ok (.aload_n 0, 1) := by decide +kernel
theorem dX11_cancelRequest_13 : decode cX11_cancelRequest 13 = .ok (.getfield 28, 3) := by decide +kernel
theorem dX11_cancelRequest_16 : decode cX11_cancelRequest 16 = .ok (.iconst 0, 1) := by decide +kernel
theorem dX11_cancelRequest_17 : decode cX11_cancelRequest 17 = .ok (.ldc_w 271, 3) := by decide +kernel
theorem dX11_cancelRequest_20 : decode cX11_cancelRequest 20 = .ok (.invokevirtual 260, 3) := by decide +kernel
theorem dX11_cancelRequest_23 : decode cX11_cancelRequest 23 = .ok (.ldc_w 259, 3) := by decide +kernel
theorem dX11_cancelRequest_26 : decode cX11_cancelRequest 26 = .ok (.invokevirtual 260, 3) := by decide +kernel
theorem dX11_cancelRequest_29 : decode cX11_cancelRequest 29 = .ok (.invokespecial 264, 3) := by decide +kernel
theorem dX11_cancelRequest_32 : decode cX11_cancelRequest 32 = .ok (.astore_n 1, 1) := by decide +kernel
theorem dX11_cancelRequest_33 : decode cX11_cancelRequest 33 = .ok (.iconst 0, 1) := by decide +kernel
theorem dX11_cancelRequest_34 : decode cX11_cancelRequest 34 = .ok (.istore_n 2, 1) := by decide +kernel
theorem dX11_cancelRequest_35 : decode cX11_cancelRequest 35 = .ok (.iload_n 2, 1) := by decide +kernel
theorem dX11_cancelRequest_36 : decode cX11_cancelRequest 36 = .ok (.aload_n 0, 1) := by decide +kernel
theorem dX11_cancelRequest_37 : decode cX11_cancelRequest 37 = .ok (.getfield 65, 3) := by decide +kernel
theorem dX11_cancelRequest_40 : decode cX11_cancelRequest 40 = .ok (.invokeinterface 142 1, 5) := by decide +kernel
theorem dX11_cancelRequest_45 : decode cX11_cancelRequest 45 = .ok (.if_icmp .ge 50, 3) := by decide +kernel
theorem dX11_cancelRequest_48 : decode cX11_cancelRequest 48 = .ok (.aload_n 0, 1) := by decide +kernel
theorem dX11_cancelRequest_49 : decode cX11_cancelRequest 49 = .ok (.getfield 65, 3) := by decide +kernel
theorem dX11_cancelRequest_52 : decode cX11_cancelRequest 52 = .ok (.iload_n 2, 1) := by decide +kernel
theorem dX11_cancelRequest_53 : decode cX11_cancelRequest 53 = .ok (.invokeinterface 249 2, 5) := by decide +kernel
theorem dX11_cancelRequest_58 : decode cX11_cancelRequest 58 = .ok (.checkcast 115, 3) := by decide +kernel
theorem dX11_cancelRequest_61 : decode cX11_cancelRequest 61 = .ok (.aload_n 1, 1) := by decide +kernel
theorem dX11_cancelRequest_62 : decode cX11_cancelRequest 62 = .ok (.invokevirtual 426, 3) := by decide +kernel
theorem dX11_cancelRequest_65 : decode cX11_cancelRequest 65 = .ok (.ifCond .eq 24, 3) := by decide +kernel
theorem dX11_cancelRequest_68 : decode cX11_cancelRequest 68 = .ok (.aload_n 0, 1) := by decide +kernel
theorem dX11_cancelRequest_69 : decode cX11_cancelRequest 69 = .ok (.aload_n 0, 1) := by decide +kernel
theorem dX11_cancelRequest_70 : decode cX11_cancelRequest 70 = .ok (.getfield 65, 3) := by decide +kernel
theorem dX11_cancelRequest_73 : decode cX11_cancelRequest 73 = .ok (.iload_n 2, 1) := by decide +kernel
theorem dX11_cancelRequest_74 : decode cX11_cancelRequest 74 = .ok (.invokeinterface 423 2, 5) := by decide +kernel
theorem dX11_cancelRequest_79 : decode cX11_cancelRequest 79 = .ok (.checkcast 115, 3) := by decide +kernel
theorem dX11_cancelRequest_82 : decode cX11_cancelRequest 82 = .ok (.ldc_w 429, 3) := by decide +kernel
theorem dX11_cancelRequest_85 : decode cX11_cancelRequest 85 = .ok (.invokevirtual 267, 3) := by decide +kernel
theorem dX11_cancelRequest_88 : decode cX11_cancelRequest 88 = .ok (.return_, 1) := by decide +kernel
theorem dX11_cancelRequest_89 : decode cX11_cancelRequest 89 = .ok (.iinc 2 1, 3) := by decide +kernel
theorem dX11_cancelRequest_92 : decode cX11_cancelRequest 92 = .ok (.goto (-57), 3) := by decide +kernel
theorem dX11_cancelRequest_95 : decode cX11_cancelRequest 95 = .ok (.return_, 1) := by decide +kernel
theorem dX11_aimAtName_0 : decode cX11_aimAtName 0 = .ok (.aload_n 0, 1) := by decide +kernel
theorem dX11_aimAtName_1 : decode cX11_aimAtName 1 = .ok (.invokevirtual 359, 3) := by decide +kernel
theorem dX11_aimAtName_4 : decode cX11_aimAtName 4 = .ok (.astore_n 2, 1) := by decide +kernel
theorem dX11_aimAtName_5 : decode cX11_aimAtName 5 = .ok (.aload_n 0, 1) := by decide +kernel
theorem dX11_aimAtName_6 : decode cX11_aimAtName 6 = .ok (.getfield 28, 3) := by decide +kernel
theorem dX11_aimAtName_9 : decode cX11_aimAtName 9 = .ok (.aload_n 0, 1) := by decide +kernel
theorem dX11_aimAtName_10 : decode cX11_aimAtName 10 = .ok (.getfield 28, 3) := by decide +kernel
theorem dX11_aimAtName_13 : decode cX11_aimAtName 13 = .ok (.iconst 0, 1) := by decide +kernel
theorem dX11_aimAtName_14 : decode cX11_aimAtName 14 = .ok (.ldc_w 271, 3) := by decide +kernel
theorem dX11_aimAtName_17 : decode cX11_aimAtName 17 = .ok (.invokevirtual 260, 3) := by decide +kernel
theorem dX11_aimAtName_20 : decode cX11_aimAtName 20 = .ok (.ldc_w 441, 3) := by decide +kernel
theorem dX11_aimAtName_23 : decode cX11_aimAtName 23 = .ok (.invokevirtual 260, 3) := by decide +kernel
theorem dX11_aimAtName_26 : decode cX11_aimAtName 26 = .ok (.istore_n 3, 1) := by decide +kernel
theorem dX11_aimAtName_27 : decode cX11_aimAtName 27 = .ok (.aload_n 2, 1) := by decide +kernel
theorem dX11_aimAtName_28 : decode cX11_aimAtName 28 = .ok (.ifnull 15, 3) := by decide +kernel
theorem dX11_aimAtName_31 : decode cX11_aimAtName 31 = .ok (.aload_n 0, 1) := by decide +kernel
theorem dX11_aimAtName_32 : decode cX11_aimAtName 32 = .ok (.getfield 28, 3) := by decide +kernel
theorem dX11_aimAtName_35 : decode cX11_aimAtName 35 = .ok (.iload_n 3, 1) := by decide +kernel
theorem dX11_aimAtName_36 : decode cX11_aimAtName 36 = .ok (.invokevirtual 283, 3) := by decide +kernel
theorem dX11_aimAtName_39 : decode cX11_aimAtName 39 = .ok (.iconst 3, 1) := by decide +kernel
theorem dX11_aimAtName_40 : decode cX11_aimAtName 40 = .ok (.if_icmp .eq 5, 3) := by decide +kernel
theorem dX11_aimAtName_43 : decode cX11_aimAtName 43 = .ok (.iconst 0, 1) := by decide +kernel
theorem dX11_aimAtName_44 : decode cX11_aimAtName 44 = .ok (.ireturn, 1) := by decide +kernel
theorem dX11_aimAtName_45 : decode cX11_aimAtName 45 = .ok (.aload_n 0, 1) := by decide +kernel
theorem dX11_aimAtName_46 : decode cX11_aimAtName 46 = .ok (.getfield 28, 3) := by decide +kernel
theorem dX11_aimAtName_49 : decode cX11_aimAtName 49 = .ok (.iload_n 3, 1) := by decide +kernel
theorem dX11_aimAtName_50 : decode cX11_aimAtName 50 = .ok (.invokevirtual 363, 3) := by decide +kernel
theorem dX11_aimAtName_53 : decode cX11_aimAtName 53 = .ok (.astore 4, 2) := by decide +kernel
theorem dX11_aimAtName_55 : decode cX11_aimAtName 55 = .ok (.aload_n 1, 1) := by decide +kernel
theorem dX11_aimAtName_56 : decode cX11_aimAtName 56 = .ok (.aload_n 2, 1) := by decide +kernel
theorem dX11_aimAtName_57 : decode cX11_aimAtName 57 = .ok (.putfield 432, 3) := by decide +kernel
theorem dX11_aimAtName_60 : decode cX11_aimAtName 60 = .ok (.aload_n 1, 1) := by decide +kernel
theorem dX11_aimAtName_61 : decode cX11_aimAtName 61 = .ok (.aload_n 2, 1) := by decide +kernel
theorem dX11_aimAtName_62 : decode cX11_aimAtName 62 = .ok (.getfield 168, 3) := by decide +kernel
theorem dX11_aimAtName_65 : decode cX11_aimAtName 65 = .ok (.putfield 438, 3) := by decide +kernel
theorem dX11_aimAtName_68 : decode cX11_aimAtName 68 = .ok (.aload_n 1, 1) := by decide +kernel
theorem dX11_aimAtName_69 : decode cX11_aimAtName 69 = .ok (.iconst 1, 1) := by decide +kernel
theorem dX11_aimAtName_70 : decode cX11_aimAtName 70 = .ok (.putfield 443, 3) := by decide +kernel
theorem dX11_aimAtName_73 : decode cX11_aimAtName 73 = .ok (.aload_n 1, 1) := by decide +kernel
theorem dX11_aimAtName_74 : decode cX11_aimAtName 74 = .ok (.aload_n 0, 1) := by decide +kernel
theorem dX11_aimAtName_75 : decode cX11_aimAtName 75 = .ok (.getfield 41, 3) := by decide +kernel
theorem dX11_aimAtName_78 : decode cX11_aimAtName 78 = .ok (.getfield 47, 3) := by decide +kernel
theorem dX11_aimAtName_81 : decode cX11_aimAtName 81 = .ok (.aload 4, 2) := by decide +kernel
theorem dX11_aimAtName_83 : decode cX11_aimAtName 83 = .ok (.iconst 0, 1) := by decide +kernel
theorem dX11_aimAtName_84 : decode cX11_aimAtName 84 = .ok (.aload 4, 2) := by decide +kernel
theorem dX11_aimAtName_86 : decode cX11_aimAtName 86 = .ok (.arraylength, 1) := by decide +kernel
theorem dX11_aimAtName_87 : decode cX11_aimAtName 87 = .ok (.iconst 0, 1) := by decide +kernel
theorem dX11_aimAtName_88 : decode cX11_aimAtName 88 = .ok (.invokevirtual 446, 3) := by decide +kernel
theorem dX11_aimAtName_91 : decode cX11_aimAtName 91 = .ok (.putfield 451, 3) := by decide +kernel
theorem dX11_aimAtName_94 : decode cX11_aimAtName 94 = .ok (.iconst 1, 1) := by decide +kernel
theorem dX11_aimAtName_95 : decode cX11_aimAtName 95 = .ok (.ireturn, 1) := by decide +kernel
def EX11_aimAtName : List (Nat × Nat) := [(8, 3), (10, 1), (10, 2), (10, 3), (10, 4), (101, 0), (102, 0), (132, 0), (133, 0)]
def EX11_cancelRequest : List (Nat × Nat) := [(1, 0), (1, 2), (2, 0), (2, 1), (13, 14), (101, 0), (196, 0), (221, 0), (222, 0), (223, 0)]
set_option maxHeartbeats 4000000 in
set_option maxRecDepth 20000 in
theorem uX11_aimAtName (l : Launch) (dC : Nat → ClassId) (dI : Nat → Nat → Nat) (ca : Nat → ClassId) (base : Nat) (B : jF) (hB : jBok B) (hAp : jAp (dC, dI)) (hB1 : ∀ n G a H, B 1 n G a H ↔ jOb (dC, dI) 1 3 (F1 n G) a H) (hB3 : ∀ n G a H, B 3 n G a H ↔ jOb (dC, dI) 3 17 (F3 n G) a H) (hB6 : ∀ n G a H, B 6 n G a H ↔ jOb (dC, dI) 6 12 (F6 n G) a H) (hB7 : ∀ n G a H, B 7 n G a H ↔ jOb (dC, dI) 7 11 (F7 n G) a H) (hB8 : ∀ n G a H, B 8 n G a H ↔ jOb (dC, dI) 8 4 (F8 n G) a H) (hB10 : ∀ n G a H, B 10 n G a H ↔ jOb (dC, dI) 10 5 (F10 n G) a H) (hB13 : ∀ n G a H, B 13 n G a H ↔ jOb (dC, dI) 13 19 (F13 n G) a H) (hB101 : ∀ n G a H, B 101 n G a H ↔ jAr (dC, dI) (ca 1) (fun j z => True) n a H) (hB102 : ∀ n G a H, B 102 n G a H ↔ jAl (dC, dI) (ca 2) n a H) (hB132 : ∀ n G a H, B 132 n G a H ↔ jAr (dC, dI) (ca 1) (fun j z => 0 ≤ z.toInt ∧ z.toInt ≤ 10) n a H) (hB133 : ∀ n G a H, B 133 n G a H ↔ jAr (dC, dI) (ca 1) (fun j z => 0 ≤ z.toInt ∧ z.toInt ≤ 8192) n a H) (hB140 : ∀ n G a H, B 140 n G a H ↔ jAr (dC, dI) (ca 1) (fun j z => True) n a H) (hB141 : ∀ n G a H, B 141 n G a H ↔ jAr (dC, dI) (ca 1) (fun j z => True) n a H) (hB142 : ∀ n G a H, B 142 n G a H ↔ jAr (dC, dI) (ca 1) (fun j z => True) n a H) (hB143 : ∀ n G a H, B 143 n G a H ↔ jAr (dC, dI) (ca 1) (fun j z => True) n a H) (hB144 : ∀ n G a H, B 144 n G a H ↔ jAr (dC, dI) (ca 1) (fun j z => 0 ≤ z.toInt ∧ z.toInt ≤ 3000) n a H) (hB145 : ∀ n G a H, B 145 n G a H ↔ jAr (dC, dI) (ca 1) (fun j z => True) n a H) (hB146 : ∀ n G a H, B 146 n G a H ↔ jAr (dC, dI) (ca 1) (fun j z => True) n a H) (hB221 : ∀ n G a H, B 221 n G a H ↔ jAq (dC, dI) (ca 9) (jQn 3 0) n G a H) (G0 : jT) (H0 : Heap) (r0 : Nat) (r1 : Nat) (js : Nat) (pv : Int32) (pu : Int32) (wk : Nat) (wi : Nat) (wz : Nat) (jks : Nat) (fk : Nat → Int32) (fi : Nat → Int32) (fz : Nat → Int32) (fs : Nat → Int32) (LC LS : Nat) : Met l yX11_aimAtName (jw yX11_aimAtName cX11_aimAtName 5 (some .boolean)) ({ frames := 7, cells := LC - H0.size, slots := LS - jTot H0, locals := 212 }) (va_Pc [.ref r0, .ref r1] (fun U => U.heap = H0 ∧ jX B base G0 [] H0 ∧ jG dC dI ca base U ∧ jK7 dC dI ca base U ∧ G0 r0 = some (13, 0) ∧ G0 r1 = some (10, 0) ∧ G0 js = some (6, 0) ∧ G0 wk = some (140, 1502) ∧ G0 wi = some (141, 1502) ∧ G0 wz = some (142, 1502) ∧ G0 jks = some (145, 1502) ∧ jP (dC, dI) G0 H0 [(r0, 13, 2, .ref js), (js, 6, 7, .int pv), (js, 6, 8, .int pu), (js, 6, 0, .ref wk), (js, 6, 1, .ref wi), (js, 6, 2, .ref wz), (js, 6, 5, .ref jks)] ∧ jMc (dC, dI) G0 H0 [(wk, 140, 1502, ca 1, fk), (wi, 141, 1502, ca 1, fi), (wz, 142, 1502, ca 1, fz), (jks, 145, 1502, ca 1, fs)] ∧ jIs (dC, dI) G0 H0 [(jFl, jLs dC dI ca G0 3 none)] ∧ H0.size + 1 ≤ LC ∧ jTot H0 + 3000 ≤ LS ∧ 0 ≤ pv.toInt ∧ pv.toInt ≤ 1502 ∧ 0 ≤ pu.toInt ∧ pu.toInt ≤ 3000 ∧ jJq fk fi fz pv.toInt ∧ jJu fk fz pv.toInt pu.toInt)) (va_Qi (S := jT) (fun r u => (r = 0 ∨ r = 1) ∧ (True)) (fun u t => jRa (dC, dI) B base G0 u EX11_aimAtName H0 (1) (pu.toInt.toNat) [] t.heap ∧ (jNk [0, 1, 2, 3, 4, 5, 6, 7, 8, 9, 10, 11, 12, 13, 14, 15, 16]) G0 u ∧ jIs (dC, dI) u t.heap [(jFl, jLs dC dI ca u 3 none)]) (jA base)) (LC - H0.size) (LS - jTot H0) (jA base) := by
  refine Met.ofW (cc := cX11_aimAtName) (maxL := 5) (ret := (some .boolean)) (by decide) rfl ?_
  intro p e s m args below meth c s₁ Bd hml hv
  obtain ⟨rfl, hH0, hX, hG, hK7, hg_r0, hg_r1, hg_js, hg_wk, hg_wi, hg_wz, hg_jks, hP0, hM0, hI0, hLC0, hLS0, hp0, hp1, hp2, hp3, hp4, hp5⟩ := hv
  have hK := hG.1
  have hx := Bd.exec
  have hb := Bd.bytes
  have hr := Bd.returns
  have hts := atoms_spec (ws := (jw yX11_aimAtName cX11_aimAtName 5 (some .boolean))) Bd.pre
  have htw : ∀ w ∈ jWl, w.before _ s = true := fun w h => hts w (List.mem_cons_of_mem _ h)
  have hown : s.vm.findClass RX11 = some m.cls := findClass_of_methodNamed Bd.named
  have hlocks := Bd.notSynchronized
  obtain ⟨Q, hQ⟩ : ∃ Q, Q = MQ below (va_Qi (S := jT) (fun r u => (r = 0 ∨ r = 1) ∧ (True)) (fun u t => jRa (dC, dI) B base G0 u EX11_aimAtName H0 (1) (pu.toInt.toNat) [] t.heap ∧ (jNk [0, 1, 2, 3, 4, 5, 6, 7, 8, 9, 10, 11, 12, 13, 14, 15, 16]) G0 u ∧ jIs (dC, dI) u t.heap [(jFl, jLs dC dI ca u 3 none)]) (jA base)) ([.ref r0, .ref r1] : List Value).toArray s (LC - H0.size) (LS - jTot H0) (jA base) := ⟨_, rfl⟩
  rw [← hQ]
  have hl := lv_entry ([.ref r0, .ref r1]) (n := 5) (Nat.le_of_ble_eq_true rfl)
  rw [lg_entry_eq]
  generalize (lg_sl ([.ref r0, .ref r1]) ++ List.replicate (5 - (lg_sl ([.ref r0, .ref r1])).length) Slot.unset).toArray = ls at hl ⊢
  have hl : lv_has ls 5 [(0, .ref r0), (1, .ref r1)] := hl
  generalize hR : (headSpec (jw yX11_aimAtName cX11_aimAtName 5 (some .boolean)) ({ frames := 7, cells := LC - H0.size, slots := LS - jTot H0, locals := 212 })).room = R
  subst hH0
  have hh : jSt (dC, dI) B base G0 G0 EX11_aimAtName s.heap 0 0 [(r0, 13, 2, .ref js), (js, 6, 7, .int pv), (js, 6, 8, .int pu), (js, 6, 0, .ref wk), (js, 6, 1, .ref wi), (js, 6, 2, .ref wz), (js, 6, 5, .ref jks)] [(wk, 140, 1502, ca 1, fk), (wi, 141, 1502, ca 1, fi), (wz, 142, 1502, ca 1, fz), (jks, 145, 1502, ca 1, fs)] [(jFl, jLs dC dI ca G0 3 none)] s.heap [] := jSt.start hX hP0 hM0 hI0
  clear hX hP0
  have hk0 : (0 : Int32).toInt = 0 := by decide
  have hk1 : (1 : Int32).toInt = 1 := by decide
  have hk3 : (3 : Int32).toInt = 3 := by decide
  have hly_3_4 := htw (u_lay RX1 TX1 4) (jWc_wsX10 _ (u_in_lay (by decide)))
  have hly_7_0 := htw (u_lay RX5 TX5 0) (jWc_wsX50 _ (u_in_lay (by decide)))
  have hly_10_1 := htw (u_lay RX8 TX8 1) (jWc_wsX80 _ (u_in_lay (by decide)))
  have hly_10_2 := htw (u_lay RX8 TX8 2) (jWc_wsX80 _ (u_in_lay (by decide)))
  have hly_10_3 := htw (u_lay RX8 TX8 3) (jWc_wsX80 _ (u_in_lay (by decide)))
  have hly_10_4 := htw (u_lay RX8 TX8 4) (jWc_wsX80 _ (u_in_lay (by decide)))
  have hly_13_2 := htw (u_lay RX11 TX11 2) (jWc_wsX110 _ (u_in_lay (by decide)))
  have hly_13_5 := htw (u_lay RX11 TX11 5) (jWc_wsX110 _ (u_in_lay (by decide)))
  have hlk_28 := (htw (.fieldLink RX11 28 "ProofServer" "json" "LProofServer$Json;") (jWr_1 _ (List.mem_of_getElem? (i := 23) rfl)))
  obtain ⟨str271, rstr271, hstr2710⟩ := hG.str (o := RX11) (k := 271) (tx := "params") (List.mem_of_getElem? (i := 852) (by decide +kernel))
  have hstr271 : jStr base str271 6 s s.heap := hstr2710
  obtain ⟨str441, rstr441, hstr4410⟩ := hG.str (o := RX11) (k := 441) (tx := "name") (List.mem_of_getElem? (i := 1088) (by decide +kernel))
  have hstr441 : jStr base str441 4 s s.heap := hstr4410
  have hlk_432 := (htw (.fieldLink RX11 432 "ProofServer$Request" "about" "LProofServer$Document;") (jWr_27 _ (List.mem_of_getElem? (i := 14) rfl)))
  have hlk_168 := (htw (.fieldLink RX11 168 "ProofServer$Document" "sentences" "I") (jWr_35 _ (List.mem_of_getElem? (i := 4) rfl)))
  have hlk_438 := (htw (.fieldLink RX11 438 "ProofServer$Request" "needed" "I") (jWr_27 _ (List.mem_of_getElem? (i := 15) rfl)))
  have hlk_443 := (htw (.fieldLink RX11 443 "ProofServer$Request" "isStatement" "Z") (jWr_30 _ (List.mem_of_getElem? (i := 7) rfl)))
  have hlk_41 := (htw (.fieldLink RX11 41 "ProofServer" "kernel" "LProofServer$Kernel;") (jWr_2 _ (List.mem_of_getElem? (i := 5) rfl)))
  have hlk_47 := (htw (.fieldLink RX11 47 "ProofServer$Kernel" "names" "LProofServer$Names;") (jWr_2 _ (List.mem_of_getElem? (i := 9) rfl)))
  have hlk_451 := (htw (.fieldLink RX11 451 "ProofServer$Request" "name" "I") (jWr_30 _ (List.mem_of_getElem? (i := 8) rfl)))
  have hbs : base ≤ s.heap.size := Nat.le_of_lt (Nat.lt_of_le_of_lt (hh.ab hg_r0).1 (hh.ab hg_r0).2)
  have hRc : R.cells = LC - s.heap.size := by rw [← hR]; rfl
  have hRs : R.slots = LS - jTot s.heap := by rw [← hR]; rfl
  refine lv_aload_n hx hb dX11_aimAtName_0 rfl (lv_at hl 0 rfl) ?_
  have hsz_1 := hh.2.2.2.2.2.1
  have htt_1 := hh.2.2.2.2.2.2.1
  refine W.room (fun hrc_1 hrs_1 => ?_)
  refine j_callx (A0 := jA base) (H0 := s.heap) (va_runV (As := []) (rest := []) ⟨hx, hb, hml, hown, hts⟩ (uX11_addressed l dC dI ca base B hB hAp hB1 hB3 hB6 hB13 hB101 hB140 hB141 hB142 hB143 hB144 hB145 hB146 hB221 G0 s.heap r0) (cwV 0 hts (jgV (jWr_27 _ (List.mem_of_getElem? (i := 16) rfl)) (jWr_27 _ (List.mem_of_getElem? (i := 17) rfl)) (jWr_27 _ (List.mem_of_getElem? (i := 18) rfl)) (jWr_1 _ (List.mem_of_getElem? (i := 2) rfl)) (jWr_27 _ (List.mem_of_getElem? (i := 19) rfl))) rfl rfl rfl (by decide +kernel) ⟨by rw [← hR]; exact Nat.le_of_ble_eq_true rfl, by rw [← hR]; exact Nat.le_of_ble_eq_true rfl⟩) ⟨fun a U g mk q => by obtain ⟨q0, q1, q2, qK, q10, q11, q12, q13, q14⟩ := q; exact ⟨q0, q1, q2, jG.calling g mk a qK, (jK7.calling g mk a q10), q11, q12, q13, q14⟩, hh.recv (C := RX11) (T := TX11) (N := 19) hB13 rfl (by decide) hg_r0 hK, fun U hU hW => ⟨rfl, hU, hh.2.1, hG.step hW hU hh.1, (hK7.step hW hU hh.1), hg_r0, jP.nil, (hh.2.2.2.2.2.2.2.2.sub (L1 := [(jFl, jLs dC dI ca G0 3 none)]) [0] rfl), trivial⟩⟩ rfl rfl hl.1 rfl (lv_room (Nat.le_of_ble_eq_true rfl)) dX11_aimAtName_1 ⟨by rw [hRc]; show _ + 0 ≤ _; omega, by rw [hRs]; show _ + 0 ≤ _; omega⟩) hh.1 (fun q _ h => h) (fun q h => h) (fun r_2 u_1 t_1 H_1 locs_1 ht_1 hvm_1 hr_2 hb_1 hz_1 hk_1 hS_1 => ?_)
  rw [ht_1] at hb_1
  obtain ⟨hb_1, hbE_1⟩ := hb_1
  obtain ⟨hb_11, hb_12, hb_13, hb_14, hb_15⟩ := hb_1
  have hh_1 : jSt (dC, dI) B base G0 G0 EX11_aimAtName s.heap 0 0 [(r0, 13, 2, .ref js), (js, 6, 7, .int pv), (js, 6, 8, .int pu), (js, 6, 0, .ref wk), (js, 6, 1, .ref wi), (js, 6, 2, .ref wz), (js, 6, 5, .ref jks)] [(wk, 140, 1502, ca 1, fk), (wi, 141, 1502, ca 1, fi), (wz, 142, 1502, ca 1, fz), (jks, 145, 1502, ca 1, fs)] [(jFl, jLs dC dI ca G0 3 none)] H_1 locs_1 := (((hh.call hb_11 hb_12 hb_13 hb_14 hS_1 rfl (L1 := [(r0, 13, 2, .ref js), (js, 6, 7, .int pv), (js, 6, 8, .int pu), (js, 6, 0, .ref wk), (js, 6, 1, .ref wi), (js, 6, 2, .ref wz), (js, 6, 5, .ref jks)]) [0, 1, 2, 3, 4, 5, 6] rfl rfl (M1 := [(wk, 140, 1502, ca 1, fk), (wi, 141, 1502, ca 1, fi), (wz, 142, 1502, ca 1, fz), (jks, 145, 1502, ca 1, fs)]) [0, 1, 2, 3] rfl rfl (I1 := []) [] rfl rfl).more hb_15)).addIs hbE_1
  clear hh ht_1 hvm_1 hz_1 hk_1 hS_1 hb_11 hb_12 hb_13 hb_14 hb_15
  clear  hbE_1
  rcases hr_2 with rfl | ⟨ret_3, rfl, hg_ret_3⟩
  · skip
    refine j7_nst_n (lv' := [(2, .null), (0, .ref r0), (1, .ref r1)]) hx hb dX11_aimAtName_4 rfl hl (by decide) rfl (fun ls hl => ?_)
    refine lv_aload_n hx hb dX11_aimAtName_5 rfl (lv_at hl 1 rfl) ?_
    refine j7_read hx hb hown hK (C := RX11) (T := TX11) (N := 19) rfl hly_13_2 hlk_28 (hh_1.at 0 rfl) dX11_aimAtName_6 ?_
    refine lv_aload_n hx hb dX11_aimAtName_9 rfl (lv_at hl 1 rfl) ?_
    refine j7_read hx hb hown hK (C := RX11) (T := TX11) (N := 19) rfl hly_13_2 hlk_28 (hh_1.at 0 rfl) dX11_aimAtName_10 ?_
    refine lv_iconst (v := 0) hx hb dX11_aimAtName_13 (by decide) ?_
    refine j_ldcSw hx hb hown rstr271 dX11_aimAtName_14 ?_
    have hsz_4 := hh_1.2.2.2.2.2.1
    have htt_4 := hh_1.2.2.2.2.2.2.1
    refine W.room (fun hrc_4 hrs_4 => ?_)
    refine va_calli (A0 := jA base) (H0 := s.heap) (va_runV (As := [.int 0, .ref str271]) (rest := [.ref js]) ⟨hx, hb, hml, hown, hts⟩ (uX4_memberQ l dC dI ca base B hB hAp hB6 hB140 hB141 hB142 hB143 hB144 hB145 hB146 G0 H_1 js 0 str271 6 pv wk wi wz jks fk fi fz fs) (cwV 2 hts (jgV (jWr_23 _ (List.mem_of_getElem? (i := 10) rfl)) (jWr_23 _ (List.mem_of_getElem? (i := 11) rfl)) (jWr_23 _ (List.mem_of_getElem? (i := 12) rfl)) (jWr_1 _ (List.mem_of_getElem? (i := 22) rfl)) (jWr_23 _ (List.mem_of_getElem? (i := 13) rfl))) rfl rfl rfl (by decide +kernel) ⟨by rw [← hR]; exact Nat.le_of_ble_eq_true rfl, by rw [← hR]; exact Nat.le_of_ble_eq_true rfl⟩) ⟨fun a U g mk q => by obtain ⟨q0, q1, q2, qK, q10, q11, q12, q13, q14, q15, q16, q17, q18⟩ := q; exact ⟨q0, q1, q2, jG.calling g mk a qK, (q10.moved (Vm.Alike.refl U.vm)), q11, q12, q13, q14, q15, q16, q17, q18⟩, hh_1.recv (C := RX4) (T := TX4) (N := 12) hB6 rfl (by decide) hg_js hK, fun U hU hW => ⟨rfl, hU, hh_1.2.1, hG.step hW hU hh_1.1, (hstr271.moved hW.alike).kept hh_1.1.2.1, hg_js, hg_wk, hg_wi, hg_wz, hg_jks, (hh_1.2.2.1.sub (L1 := [(js, 6, 7, .int pv), (js, 6, 0, .ref wk), (js, 6, 1, .ref wi), (js, 6, 2, .ref wz), (js, 6, 5, .ref jks)]) [1, 3, 4, 5, 6] rfl), (hh_1.2.2.2.2.2.2.2.1.sub (L1 := [(wk, 140, 1502, ca 1, fk), (wi, 141, 1502, ca 1, fi), (wz, 142, 1502, ca 1, fz), (jks, 145, 1502, ca 1, fs)]) [0, 1, 2, 3] rfl), by first | omega | (refine ⟨?_, ?_, ?_⟩ <;> (first | omega | rfl | assumption | decide | exact Or.inl rfl | exact Or.inr rfl | (simp only; omega)))⟩⟩ rfl rfl hl.1 rfl (lv_room (Nat.le_of_ble_eq_true rfl)) dX11_aimAtName_17 ⟨by rw [hRc]; show _ + 0 ≤ _; omega, by rw [hRs]; show _ + 0 ≤ _; omega⟩) hh_1.1 (fun q _ h => h) (fun q h => h) (fun r_5 u_4 t_4 H_4 locs_4 ht_4 hvm_4 hr_5 hb_4 hz_4 hk_4 hS_4 => ?_)
    rw [ht_4] at hb_4
    obtain ⟨hb_4, hbF_4⟩ := hb_4
    obtain ⟨hb_41, hb_42, hb_43, hb_44, hb_45⟩ := hb_4
    have hh_4 : jSt (dC, dI) B base G0 G0 EX11_aimAtName s.heap 0 0 [(r0, 13, 2, .ref js), (js, 6, 7, .int pv), (js, 6, 8, .int pu), (js, 6, 0, .ref wk), (js, 6, 1, .ref wi), (js, 6, 2, .ref wz), (js, 6, 5, .ref jks)] [(wk, 140, 1502, ca 1, fk), (wi, 141, 1502, ca 1, fi), (wz, 142, 1502, ca 1, fz), (jks, 145, 1502, ca 1, fs)] [(jFl, jLs dC dI ca G0 3 none)] H_4 locs_4 := ((hh_1.call hb_41 hb_42 hb_43 hb_44 hS_4 rfl (L1 := [(r0, 13, 2, .ref js), (js, 6, 7, .int pv), (js, 6, 8, .int pu), (js, 6, 0, .ref wk), (js, 6, 1, .ref wi), (js, 6, 2, .ref wz), (js, 6, 5, .ref jks)]) [0, 1, 2, 3, 4, 5, 6] rfl rfl (M1 := [(wk, 140, 1502, ca 1, fk), (wi, 141, 1502, ca 1, fi), (wz, 142, 1502, ca 1, fz), (jks, 145, 1502, ca 1, fs)]) [0, 1, 2, 3] rfl rfl (I1 := [(jFl, jLs dC dI ca G0 3 none)]) [0] rfl rfl).more hb_45)
    clear hh_1 ht_4 hvm_4 hz_4 hk_4 hS_4 hb_41 hb_42 hb_43 hb_44 hb_45
    obtain ⟨hr_5_0, hr_5_1, hr_5_2⟩ := hr_5
    refine j_ldcSw hx hb hown rstr441 dX11_aimAtName_20 ?_
    have hsz_6 := hh_4.2.2.2.2.2.1
    have htt_6 := hh_4.2.2.2.2.2.2.1
    refine W.room (fun hrc_6 hrs_6 => ?_)
    refine va_calli (A0 := jA base) (H0 := s.heap) (va_runV (As := [.int r_5, .ref str441]) (rest := []) ⟨hx, hb, hml, hown, hts⟩ (uX4_memberQ l dC dI ca base B hB hAp hB6 hB140 hB141 hB142 hB143 hB144 hB145 hB146 G0 H_4 js r_5 str441 4 pv wk wi wz jks fk fi fz fs) (cwV 2 hts (jgV (jWr_23 _ (List.mem_of_getElem? (i := 10) rfl)) (jWr_23 _ (List.mem_of_getElem? (i := 11) rfl)) (jWr_23 _ (List.mem_of_getElem? (i := 12) rfl)) (jWr_1 _ (List.mem_of_getElem? (i := 22) rfl)) (jWr_23 _ (List.mem_of_getElem? (i := 13) rfl))) rfl rfl rfl (by decide +kernel) ⟨by rw [← hR]; exact Nat.le_of_ble_eq_true rfl, by rw [← hR]; exact Nat.le_of_ble_eq_true rfl⟩) ⟨fun a U g mk q => by obtain ⟨q0, q1, q2, qK, q10, q11, q12, q13, q14, q15, q16, q17, q18⟩ := q; exact ⟨q0, q1, q2, jG.calling g mk a qK, (q10.moved (Vm.Alike.refl U.vm)), q11, q12, q13, q14, q15, q16, q17, q18⟩, hh_4.recv (C := RX4) (T := TX4) (N := 12) hB6 rfl (by decide) hg_js hK, fun U hU hW => ⟨rfl, hU, hh_4.2.1, hG.step hW hU hh_4.1, (hstr441.moved hW.alike).kept hh_4.1.2.1, hg_js, hg_wk, hg_wi, hg_wz, hg_jks, (hh_4.2.2.1.sub (L1 := [(js, 6, 7, .int pv), (js, 6, 0, .ref wk), (js, 6, 1, .ref wi), (js, 6, 2, .ref wz), (js, 6, 5, .ref jks)]) [1, 3, 4, 5, 6] rfl), (hh_4.2.2.2.2.2.2.2.1.sub (L1 := [(wk, 140, 1502, ca 1, fk), (wi, 141, 1502, ca 1, fi), (wz, 142, 1502, ca 1, fz), (jks, 145, 1502, ca 1, fs)]) [0, 1, 2, 3] rfl), by first | omega | (refine ⟨?_, ?_, ?_⟩ <;> (first | omega | rfl | assumption | decide | exact Or.inl rfl | exact Or.inr rfl | (simp only; omega)))⟩⟩ rfl rfl hl.1 rfl (lv_room (Nat.le_of_ble_eq_true rfl)) dX11_aimAtName_23 ⟨by rw [hRc]; show _ + 0 ≤ _; omega, by rw [hRs]; show _ + 0 ≤ _; omega⟩) hh_4.1 (fun q _ h => h) (fun q h => h) (fun r_7 u_6 t_6 H_6 locs_6 ht_6 hvm_6 hr_7 hb_6 hz_6 hk_6 hS_6 => ?_)
    rw [ht_6] at hb_6
    obtain ⟨hb_6, hbF_6⟩ := hb_6
    obtain ⟨hb_61, hb_62, hb_63, hb_64, hb_65⟩ := hb_6
    have hh_6 : jSt (dC, dI) B base G0 G0 EX11_aimAtName s.heap 0 0 [(r0, 13, 2, .ref js), (js, 6, 7, .int pv), (js, 6, 8, .int pu), (js, 6, 0, .ref wk), (js, 6, 1, .ref wi), (js, 6, 2, .ref wz), (js, 6, 5, .ref jks)] [(wk, 140, 1502, ca 1, fk), (wi, 141, 1502, ca 1, fi), (wz, 142, 1502, ca 1, fz), (jks, 145, 1502, ca 1, fs)] [(jFl, jLs dC dI ca G0 3 none)] H_6 locs_6 := ((hh_4.call hb_61 hb_62 hb_63 hb_64 hS_6 rfl (L1 := [(r0, 13, 2, .ref js), (js, 6, 7, .int pv), (js, 6, 8, .int pu), (js, 6, 0, .ref wk), (js, 6, 1, .ref wi), (js, 6, 2, .ref wz), (js, 6, 5, .ref jks)]) [0, 1, 2, 3, 4, 5, 6] rfl rfl (M1 := [(wk, 140, 1502, ca 1, fk), (wi, 141, 1502, ca 1, fi), (wz, 142, 1502, ca 1, fz), (jks, 145, 1502, ca 1, fs)]) [0, 1, 2, 3] rfl rfl (I1 := [(jFl, jLs dC dI ca G0 3 none)]) [0] rfl rfl).more hb_65)
    clear hh_4 ht_6 hvm_6 hz_6 hk_6 hS_6 hb_61 hb_62 hb_63 hb_64 hb_65
    obtain ⟨hr_7_0, hr_7_1, hr_7_2⟩ := hr_7
    refine lv_istore_n (lv' := [(3, .int r_7), (2, .null), (0, .ref r0), (1, .ref r1)]) hx hb dX11_aimAtName_26 rfl hl (by decide) rfl (fun ls hl => ?_)
    refine j7_nld_n hx hb dX11_aimAtName_27 rfl (lv_at hl 1 rfl) ?_
    refine lv_ifnullN (tgt := 43) hx hb dX11_aimAtName_28 (by decide) ?_
    refine lv_iconst (v := 0) hx hb dX11_aimAtName_43 (by decide) ?_
    have hsz_8 := hh_6.2.2.2.2.2.1
    have htt_8 := hh_6.2.2.2.2.2.2.1
    refine W.room (fun hrc_8 hrs_8 => ?_)
    refine W.widen (k := LC - s.heap.size) (n := LS - jTot s.heap) (by omega) (by omega) ?_
    rw [hQ]
    exact W.zret (v := 0) hx hb hr (jb_nz (Or.inl rfl)) (fun t ht hW => ⟨⟨0, G0, rfl, ⟨(Or.inl rfl), trivial⟩, ⟨hh_6.ra (by first | omega | (simp only; omega)) (by first | omega | (simp only; omega)) (M1 := []) [] rfl ht, jNk.rf, by rw [ht]; exact hh_6.2.2.2.2.2.2.2.2.sub (L1 := [(jFl, jLs dC dI ca G0 3 none)]) [0] rfl⟩⟩, by rw [ht]; try exact hh_6.1.1, fun q h9 hq => by rw [ht]; try exact hh_6.1.2.1 q h9 hq⟩) hh_6.1.2.2 dX11_aimAtName_44
  · skip
    refine lv_astore_n (lv' := [(2, .ref ret_3), (0, .ref r0), (1, .ref r1)]) hx hb dX11_aimAtName_4 rfl hl (by decide) rfl (fun ls hl => ?_)
    refine lv_aload_n hx hb dX11_aimAtName_5 rfl (lv_at hl 1 rfl) ?_
    refine j7_read hx hb hown hK (C := RX11) (T := TX11) (N := 19) rfl hly_13_2 hlk_28 (hh_1.at 0 rfl) dX11_aimAtName_6 ?_
    refine lv_aload_n hx hb dX11_aimAtName_9 rfl (lv_at hl 1 rfl) ?_
    refine j7_read hx hb hown hK (C := RX11) (T := TX11) (N := 19) rfl hly_13_2 hlk_28 (hh_1.at 0 rfl) dX11_aimAtName_10 ?_
    refine lv_iconst (v := 0) hx hb dX11_aimAtName_13 (by decide) ?_
    refine j_ldcSw hx hb hown rstr271 dX11_aimAtName_14 ?_
    have hsz_9 := hh_1.2.2.2.2.2.1
    have htt_9 := hh_1.2.2.2.2.2.2.1
    refine W.room (fun hrc_9 hrs_9 => ?_)
    refine va_calli (A0 := jA base) (H0 := s.heap) (va_runV (As := [.int 0, .ref str271]) (rest := [.ref js]) ⟨hx, hb, hml, hown, hts⟩ (uX4_memberQ l dC dI ca base B hB hAp hB6 hB140 hB141 hB142 hB143 hB144 hB145 hB146 G0 H_1 js 0 str271 6 pv wk wi wz jks fk fi fz fs) (cwV 2 hts (jgV (jWr_23 _ (List.mem_of_getElem? (i := 10) rfl)) (jWr_23 _ (List.mem_of_getElem? (i := 11) rfl)) (jWr_23 _ (List.mem_of_getElem? (i := 12) rfl)) (jWr_1 _ (List.mem_of_getElem? (i := 22) rfl)) (jWr_23 _ (List.mem_of_getElem? (i := 13) rfl))) rfl rfl rfl (by decide +kernel) ⟨by rw [← hR]; exact Nat.le_of_ble_eq_true rfl, by rw [← hR]; exact Nat.le_of_ble_eq_true rfl⟩) ⟨fun a U g mk q => by obtain ⟨q0, q1, q2, qK, q10, q11, q12, q13, q14, q15, q16, q17, q18⟩ := q; exact ⟨q0, q1, q2, jG.calling g mk a qK, (q10.moved (Vm.Alike.refl U.vm)), q11, q12, q13, q14, q15, q16, q17, q18⟩, hh_1.recv (C := RX4) (T := TX4) (N := 12) hB6 rfl (by decide) hg_js hK, fun U hU hW => ⟨rfl, hU, hh_1.2.1, hG.step hW hU hh_1.1, (hstr271.moved hW.alike).kept hh_1.1.2.1, hg_js, hg_wk, hg_wi, hg_wz, hg_jks, (hh_1.2.2.1.sub (L1 := [(js, 6, 7, .int pv), (js, 6, 0, .ref wk), (js, 6, 1, .ref wi), (js, 6, 2, .ref wz), (js, 6, 5, .ref jks)]) [1, 3, 4, 5, 6] rfl), (hh_1.2.2.2.2.2.2.2.1.sub (L1 := [(wk, 140, 1502, ca 1, fk), (wi, 141, 1502, ca 1, fi), (wz, 142, 1502, ca 1, fz), (jks, 145, 1502, ca 1, fs)]) [0, 1, 2, 3] rfl), by first | omega | (refine ⟨?_, ?_, ?_⟩ <;> (first | omega | rfl | assumption | decide | exact Or.inl rfl | exact Or.inr rfl | (simp only; omega)))⟩⟩ rfl rfl hl.1 rfl (lv_room (Nat.le_of_ble_eq_true rfl)) dX11_aimAtName_17 ⟨by rw [hRc]; show _ + 0 ≤ _; omega, by rw [hRs]; show _ + 0 ≤ _; omega⟩) hh_1.1 (fun q _ h => h) (fun q h => h) (fun r_10 u_9 t_9 H_9 locs_9 ht_9 hvm_9 hr_10 hb_9 hz_9 hk_9 hS_9 => ?_)
    rw [ht_9] at hb_9
    obtain ⟨hb_9, hbF_9⟩ := hb_9
    obtain ⟨hb_91, hb_92, hb_93, hb_94, hb_95⟩ := hb_9
    have hh_9 : jSt (dC, dI) B base G0 G0 EX11_aimAtName s.heap 0 0 [(r0, 13, 2, .ref js), (js, 6, 7, .int pv), (js, 6, 8, .int pu), (js, 6, 0, .ref wk), (js, 6, 1, .ref wi), (js, 6, 2, .ref wz), (js, 6, 5, .ref jks)] [(wk, 140, 1502, ca 1, fk), (wi, 141, 1502, ca 1, fi), (wz, 142, 1502, ca 1, fz), (jks, 145, 1502, ca 1, fs)] [(jFl, jLs dC dI ca G0 3 none)] H_9 locs_9 := ((hh_1.call hb_91 hb_92 hb_93 hb_94 hS_9 rfl (L1 := [(r0, 13, 2, .ref js), (js, 6, 7, .int pv), (js, 6, 8, .int pu), (js, 6, 0, .ref wk), (js, 6, 1, .ref wi), (js, 6, 2, .ref wz), (js, 6, 5, .ref jks)]) [0, 1, 2, 3, 4, 5, 6] rfl rfl (M1 := [(wk, 140, 1502, ca 1, fk), (wi, 141, 1502, ca 1, fi), (wz, 142, 1502, ca 1, fz), (jks, 145, 1502, ca 1, fs)]) [0, 1, 2, 3] rfl rfl (I1 := [(jFl, jLs dC dI ca G0 3 none)]) [0] rfl rfl).more hb_95)
    clear hh_1 ht_9 hvm_9 hz_9 hk_9 hS_9 hb_91 hb_92 hb_93 hb_94 hb_95
    obtain ⟨hr_10_0, hr_10_1, hr_10_2⟩ := hr_10
    refine j_ldcSw hx hb hown rstr441 dX11_aimAtName_20 ?_
    have hsz_11 := hh_9.2.2.2.2.2.1
    have htt_11 := hh_9.2.2.2.2.2.2.1
    refine W.room (fun hrc_11 hrs_11 => ?_)
    refine va_calli (A0 := jA base) (H0 := s.heap) (va_runV (As := [.int r_10, .ref str441]) (rest := []) ⟨hx, hb, hml, hown, hts⟩ (uX4_memberQ l dC dI ca base B hB hAp hB6 hB140 hB141 hB142 hB143 hB144 hB145 hB146 G0 H_9 js r_10 str441 4 pv wk wi wz jks fk fi fz fs) (cwV 2 hts (jgV (jWr_23 _ (List.mem_of_getElem? (i := 10) rfl)) (jWr_23 _ (List.mem_of_getElem? (i := 11) rfl)) (jWr_23 _ (List.mem_of_getElem? (i := 12) rfl)) (jWr_1 _ (List.mem_of_getElem? (i := 22) rfl)) (jWr_23 _ (List.mem_of_getElem? (i := 13) rfl))) rfl rfl rfl (by decide +kernel) ⟨by rw [← hR]; exact Nat.le_of_ble_eq_true rfl, by rw [← hR]; exact Nat.le_of_ble_eq_true rfl⟩) ⟨fun a U g mk q => by obtain ⟨q0, q1, q2, qK, q10, q11, q12, q13, q14, q15, q16, q17, q18⟩ := q; exact ⟨q0, q1, q2, jG.calling g mk a qK, (q10.moved (Vm.Alike.refl U.vm)), q11, q12, q13, q14, q15, q16, q17, q18⟩, hh_9.recv (C := RX4) (T := TX4) (N := 12) hB6 rfl (by decide) hg_js hK, fun U hU hW => ⟨rfl, hU, hh_9.2.1, hG.step hW hU hh_9.1, (hstr441.moved hW.alike).kept hh_9.1.2.1, hg_js, hg_wk, hg_wi, hg_wz, hg_jks, (hh_9.2.2.1.sub (L1 := [(js, 6, 7, .int pv), (js, 6, 0, .ref wk), (js, 6, 1, .ref wi), (js, 6, 2, .ref wz), (js, 6, 5, .ref jks)]) [1, 3, 4, 5, 6] rfl), (hh_9.2.2.2.2.2.2.2.1.sub (L1 := [(wk, 140, 1502, ca 1, fk), (wi, 141, 1502, ca 1, fi), (wz, 142, 1502, ca 1, fz), (jks, 145, 1502, ca 1, fs)]) [0, 1, 2, 3] rfl), by first | omega | (refine ⟨?_, ?_, ?_⟩ <;> (first | omega | rfl | assumption | decide | exact Or.inl rfl | exact Or.inr rfl | (simp only; omega)))⟩⟩ rfl rfl hl.1 rfl (lv_room (Nat.le_of_ble_eq_true rfl)) dX11_aimAtName_23 ⟨by rw [hRc]; show _ + 0 ≤ _; omega, by rw [hRs]; show _ + 0 ≤ _; omega⟩) hh_9.1 (fun q _ h => h) (fun q h => h) (fun r_12 u_11 t_11 H_11 locs_11 ht_11 hvm_11 hr_12 hb_11 hz_11 hk_11 hS_11 => ?_)
    rw [ht_11] at hb_11
    obtain ⟨hb_11, hbF_11⟩ := hb_11
    obtain ⟨hb_111, hb_112, hb_113, hb_114, hb_115⟩ := hb_11
    have hh_11 : jSt (dC, dI) B base G0 G0 EX11_aimAtName s.heap 0 0 [(r0, 13, 2, .ref js), (js, 6, 7, .int pv), (js, 6, 8, .int pu), (js, 6, 0, .ref wk), (js, 6, 1, .ref wi), (js, 6, 2, .ref wz), (js, 6, 5, .ref jks)] [(wk, 140, 1502, ca 1, fk), (wi, 141, 1502, ca 1, fi), (wz, 142, 1502, ca 1, fz), (jks, 145, 1502, ca 1, fs)] [(jFl, jLs dC dI ca G0 3 none)] H_11 locs_11 := ((hh_9.call hb_111 hb_112 hb_113 hb_114 hS_11 rfl (L1 := [(r0, 13, 2, .ref js), (js, 6, 7, .int pv), (js, 6, 8, .int pu), (js, 6, 0, .ref wk), (js, 6, 1, .ref wi), (js, 6, 2, .ref wz), (js, 6, 5, .ref jks)]) [0, 1, 2, 3, 4, 5, 6] rfl rfl (M1 := [(wk, 140, 1502, ca 1, fk), (wi, 141, 1502, ca 1, fi), (wz, 142, 1502, ca 1, fz), (jks, 145, 1502, ca 1, fs)]) [0, 1, 2, 3] rfl rfl (I1 := [(jFl, jLs dC dI ca G0 3 none)]) [0] rfl rfl).more hb_115)
    clear hh_9 ht_11 hvm_11 hz_11 hk_11 hS_11 hb_111 hb_112 hb_113 hb_114 hb_115
    obtain ⟨hr_12_0, hr_12_1, hr_12_2⟩ := hr_12
    refine lv_istore_n (lv' := [(3, .int r_12), (2, .ref ret_3), (0, .ref r0), (1, .ref r1)]) hx hb dX11_aimAtName_26 rfl hl (by decide) rfl (fun ls hl => ?_)
    refine lv_aload_n hx hb dX11_aimAtName_27 rfl (lv_at hl 1 rfl) ?_
    refine lv_ifnull hx hb dX11_aimAtName_28 ?_
    refine lv_aload_n hx hb dX11_aimAtName_31 rfl (lv_at hl 2 rfl) ?_
    refine j7_read hx hb hown hK (C := RX11) (T := TX11) (N := 19) rfl hly_13_2 hlk_28 (hh_11.at 0 rfl) dX11_aimAtName_32 ?_
    refine lv_iload_n hx hb dX11_aimAtName_35 rfl (lv_at hl 0 rfl) ?_
    have hsz_13 := hh_11.2.2.2.2.2.1
    have htt_13 := hh_11.2.2.2.2.2.2.1
    refine W.room (fun hrc_13 hrs_13 => ?_)
    refine va_calli (A0 := jA base) (H0 := s.heap) (va_runV (As := [.int r_12]) (rest := []) ⟨hx, hb, hml, hown, hts⟩ (uX4_kindOfW l dC dI ca base B hB hAp hB6 hB140 G0 H_11 js r_12 pv wk wi wz fk fi fz) (cwV 1 hts (jgV (jWr_27 _ (List.mem_of_getElem? (i := 5) rfl)) (jWr_23 _ (List.mem_of_getElem? (i := 15) rfl)) (jWr_23 _ (List.mem_of_getElem? (i := 16) rfl)) (jWr_1 _ (List.mem_of_getElem? (i := 22) rfl)) (jWr_23 _ (List.mem_of_getElem? (i := 17) rfl))) rfl rfl rfl (by decide +kernel) ⟨by rw [← hR]; exact Nat.le_of_ble_eq_true rfl, by rw [← hR]; exact Nat.le_of_ble_eq_true rfl⟩) ⟨fun a U g mk q => by obtain ⟨q0, q1, q2, qK, q10, q11, q12, q13, q14, q15, q16⟩ := q; exact ⟨q0, q1, q2, jG.calling g mk a qK, q10, q11, q12, q13, q14, q15, q16⟩, hh_11.recv (C := RX4) (T := TX4) (N := 12) hB6 rfl (by decide) hg_js hK, fun U hU hW => ⟨rfl, hU, hh_11.2.1, hG.step hW hU hh_11.1, hg_js, hg_wk, hg_wi, hg_wz, (hh_11.2.2.1.sub (L1 := [(js, 6, 7, .int pv), (js, 6, 0, .ref wk), (js, 6, 1, .ref wi), (js, 6, 2, .ref wz)]) [1, 3, 4, 5] rfl), (hh_11.2.2.2.2.2.2.2.1.sub (L1 := [(wk, 140, 1502, ca 1, fk), (wi, 141, 1502, ca 1, fi), (wz, 142, 1502, ca 1, fz)]) [0, 1, 2] rfl), by first | omega | (refine ⟨?_, ?_⟩ <;> (first | omega | rfl | assumption | decide | exact Or.inl rfl | exact Or.inr rfl | (simp only; omega)))⟩⟩ rfl rfl hl.1 rfl (lv_room (Nat.le_of_ble_eq_true rfl)) dX11_aimAtName_36 ⟨by rw [hRc]; show _ + 0 ≤ _; omega, by rw [hRs]; show _ + 0 ≤ _; omega⟩) hh_11.1 (fun q _ h => h) (fun q h => h) (fun r_14 u_13 t_13 H_13 locs_13 ht_13 hvm_13 hr_14 hb_13 hz_13 hk_13 hS_13 => ?_)
    rw [ht_13] at hb_13
    obtain ⟨hb_13, hbF_13⟩ := hb_13
    obtain ⟨hb_131, hb_132, hb_133, hb_134, hb_135⟩ := hb_13
    have hh_13 : jSt (dC, dI) B base G0 G0 EX11_aimAtName s.heap 0 0 [(r0, 13, 2, .ref js), (js, 6, 7, .int pv), (js, 6, 8, .int pu), (js, 6, 0, .ref wk), (js, 6, 1, .ref wi), (js, 6, 2, .ref wz), (js, 6, 5, .ref jks)] [(wk, 140, 1502, ca 1, fk), (wi, 141, 1502, ca 1, fi), (wz, 142, 1502, ca 1, fz), (jks, 145, 1502, ca 1, fs)] [(jFl, jLs dC dI ca G0 3 none)] H_13 locs_13 := ((hh_11.call hb_131 hb_132 hb_133 hb_134 hS_13 rfl (L1 := [(r0, 13, 2, .ref js), (js, 6, 7, .int pv), (js, 6, 8, .int pu), (js, 6, 0, .ref wk), (js, 6, 1, .ref wi), (js, 6, 2, .ref wz), (js, 6, 5, .ref jks)]) [0, 1, 2, 3, 4, 5, 6] rfl rfl (M1 := [(wk, 140, 1502, ca 1, fk), (wi, 141, 1502, ca 1, fi), (wz, 142, 1502, ca 1, fz), (jks, 145, 1502, ca 1, fs)]) [0, 1, 2, 3] rfl rfl (I1 := [(jFl, jLs dC dI ca G0 3 none)]) [0] rfl rfl).more hb_135)
    clear hh_11 ht_13 hvm_13 hz_13 hk_13 hS_13 hb_131 hb_132 hb_133 hb_134 hb_135
    refine lv_iconst (v := 3) hx hb dX11_aimAtName_39 (by decide) ?_
    refine lv_icmp_eq (tgt := 45) hx hb dX11_aimAtName_40 (by decide) (fun c_15 => ?_) (fun c_15 => ?_)
    · skip
      have c_15' : r_14.toInt = 3 := jb_eq (rfl) ((by decide)) c_15
      first | (have hr_12_2q := hr_12_2.resolve_left (by omega); clear hr_12_2) | (have hr_12_2q := hr_12_2.resolve_right (by omega); clear hr_12_2) | skip
      first | (have hr_14q := hr_14.resolve_left (by omega); clear hr_14) | (have hr_14q := hr_14.resolve_right (by omega); clear hr_14) | try clear hr_14
      have hju := hp5 r_12.toInt (by omega) (by omega) (by omega)
      refine lv_aload_n hx hb dX11_aimAtName_45 rfl (lv_at hl 2 rfl) ?_
      refine j7_read hx hb hown hK (C := RX11) (T := TX11) (N := 19) rfl hly_13_2 hlk_28 (hh_13.at 0 rfl) dX11_aimAtName_46 ?_
      refine lv_iload_n hx hb dX11_aimAtName_49 rfl (lv_at hl 0 rfl) ?_
      have hsz_16 := hh_13.2.2.2.2.2.1
      have htt_16 := hh_13.2.2.2.2.2.2.1
      refine W.room (fun hrc_16 hrs_16 => ?_)
      refine j_callx (A0 := jA base) (H0 := s.heap) (va_runV (As := [.int r_12]) (rest := []) ⟨hx, hb, hml, hown, hts⟩ (uX4_unitsOfS l dC dI ca base B hB hAp hB6 hB101 hB140 hB141 hB142 hB146 G0 H_13 js r_12 pv wk wi wz fk fi fz LC LS) (cwV 1 hts (jgV (jWr_35 _ (List.mem_of_getElem? (i := 5) rfl)) (jWr_25 _ (List.mem_of_getElem? (i := 0) rfl)) (jWr_25 _ (List.mem_of_getElem? (i := 1) rfl)) (jWr_1 _ (List.mem_of_getElem? (i := 22) rfl)) (jWr_25 _ (List.mem_of_getElem? (i := 2) rfl))) rfl rfl rfl (by decide +kernel) ⟨by rw [← hR]; exact Nat.le_of_ble_eq_true rfl, by rw [← hR]; exact Nat.le_of_ble_eq_true rfl⟩) ⟨fun a U g mk q => by obtain ⟨q0, q1, q2, qK, q10, q11, q12, q13, q14, q15, q16⟩ := q; exact ⟨q0, q1, q2, jG.calling g mk a qK, q10, q11, q12, q13, q14, q15, q16⟩, hh_13.recv (C := RX4) (T := TX4) (N := 12) hB6 rfl (by decide) hg_js hK, fun U hU hW => ⟨rfl, hU, hh_13.2.1, hG.step hW hU hh_13.1, hg_js, hg_wk, hg_wi, hg_wz, (hh_13.2.2.1.sub (L1 := [(js, 6, 7, .int pv), (js, 6, 0, .ref wk), (js, 6, 1, .ref wi), (js, 6, 2, .ref wz)]) [1, 3, 4, 5] rfl), (hh_13.2.2.2.2.2.2.2.1.sub (L1 := [(wk, 140, 1502, ca 1, fk), (wi, 141, 1502, ca 1, fi), (wz, 142, 1502, ca 1, fz)]) [0, 1, 2] rfl), (by omega), (by omega), by first | omega | (refine ⟨?_, ?_, ?_⟩ <;> (first | omega | rfl | assumption | decide | exact Or.inl rfl | exact Or.inr rfl | (simp only; omega)))⟩⟩ rfl rfl hl.1 rfl (lv_room (Nat.le_of_ble_eq_true rfl)) dX11_aimAtName_50 ⟨by rw [hRc]; omega, by rw [hRs]; omega⟩) hh_13.1 (fun q _ h => h) (fun q h => h) (fun r_17 u_16 t_16 H_16 locs_16 ht_16 hvm_16 hr_17 hb_16 hz_16 hk_16 hS_16 => ?_)
      rw [ht_16] at hb_16
      obtain ⟨m_ret_16, G_16⟩ := u_16
      simp only at hb_16
      obtain ⟨⟨hb_161, hb_162, hb_163, hb_164, hb_165, hb_166⟩, hN_16⟩ := hb_16
      have hh_16 : jSt (dC, dI) B base G0 G_16 EX11_aimAtName s.heap (0 + (1)) (0 + (m_ret_16)) [(r0, 13, 2, .ref js), (js, 6, 7, .int pv), (js, 6, 8, .int pu), (js, 6, 0, .ref wk), (js, 6, 1, .ref wi), (js, 6, 2, .ref wz), (js, 6, 5, .ref jks)] [(wk, 140, 1502, ca 1, fk), (wi, 141, 1502, ca 1, fi), (wz, 142, 1502, ca 1, fz), (jks, 145, 1502, ca 1, fs)] [(jFl, jLs dC dI ca G0 3 none)] H_16 locs_16 := (hh_13.callG hb_161 hb_162 hb_163 hb_164 hb_165 hS_16 rfl (L1 := [(r0, 13, 2, .ref js), (js, 6, 7, .int pv), (js, 6, 8, .int pu), (js, 6, 0, .ref wk), (js, 6, 1, .ref wi), (js, 6, 2, .ref wz), (js, 6, 5, .ref jks)]) [0, 1, 2, 3, 4, 5, 6] rfl rfl (M1 := [(wk, 140, 1502, ca 1, fk), (wi, 141, 1502, ca 1, fi), (wz, 142, 1502, ca 1, fz), (jks, 145, 1502, ca 1, fs)]) [0, 1, 2, 3] rfl rfl (I1 := [(jFl, jLs dC dI ca G0 3 none)]) [0] rfl rfl).more hb_166
      have hNn_16 : (jNk [0, 1, 2, 3, 4, 5, 6, 7, 8, 9, 10, 11, 12, 13, 14, 15, 16]) G0 G_16 := (jNk.rf).tr hN_16
      have hg_18 := hb_162 _ _ hg_ret_3
      have hg_19 := hb_162 _ _ hg_r0
      have hg_20 := hb_162 _ _ hg_r1
      have hg_21 := hb_162 _ _ hg_js
      have hg_22 := hb_162 _ _ hg_wk
      have hg_23 := hb_162 _ _ hg_wi
      have hg_24 := hb_162 _ _ hg_wz
      have hg_25 := hb_162 _ _ hg_jks
      have hd_26 := jLs.grow (hh_16.iv 0 rfl) hb_162 hN_16 (by decide)
      have hh_27 := hh_16.sub (L1 := [(r0, 13, 2, .ref js), (js, 6, 7, .int pv), (js, 6, 8, .int pu), (js, 6, 0, .ref wk), (js, 6, 1, .ref wi), (js, 6, 2, .ref wz), (js, 6, 5, .ref jks)]) [0, 1, 2, 3, 4, 5, 6] rfl (M1 := [(wk, 140, 1502, ca 1, fk), (wi, 141, 1502, ca 1, fi), (wz, 142, 1502, ca 1, fz), (jks, 145, 1502, ca 1, fs)]) [0, 1, 2, 3] rfl (I1 := []) [] rfl
      clear hh_16
      have hh_28 := hh_27.addI (jLs.ie hd_26)
      clear hh_27
      obtain ⟨hr_17, hr_17n, hr_17p⟩ := hr_17
      try simp only at hr_17p
      obtain ⟨hr_17p_0, hr_17p_1⟩ := hr_17p
      obtain ⟨ret_29, rfl, hg_ret_29⟩ := hr_17
      have hsy_16 : s.heap.size ≤ ret_29 := Nat.le_trans hh_13.1.1 hr_17n.le
      refine lv_astore (lv' := [(4, .ref ret_29), (3, .int r_12), (2, .ref ret_3), (0, .ref r0), (1, .ref r1)]) hx hb dX11_aimAtName_53 hl (by decide) rfl (fun ls hl => ?_)
      refine lv_aload_n hx hb dX11_aimAtName_55 rfl (lv_at hl 4 rfl) ?_
      refine lv_aload_n hx hb dX11_aimAtName_56 rfl (lv_at hl 2 rfl) ?_
      refine j7_put hx hb hown hK hh_28 hB hAp hB10 (C := RX8) (T := TX8) (N := 5) rfl (by decide) hg_20 (i := 1) (by decide) hly_10_1 rfl hlk_432 rfl (ty := (.object "ProofServer$Document")) (v := .ref ret_3) (by decide +kernel) rfl rfl (Or.inr ⟨_, rfl, hg_18⟩) rfl (L1 := [(r0, 13, 2, .ref js), (js, 6, 7, .int pv), (js, 6, 8, .int pu), (js, 6, 0, .ref wk), (js, 6, 1, .ref wi), (js, 6, 2, .ref wz), (js, 6, 5, .ref jks)]) [0, 1, 2, 3, 4, 5, 6] rfl rfl rfl dX11_aimAtName_57 (fun H_30 locs_30 hh_30 => ?_)
      clear hh_28
      refine lv_aload_n hx hb dX11_aimAtName_60 rfl (lv_at hl 4 rfl) ?_
      refine lv_aload_n hx hb dX11_aimAtName_61 rfl (lv_at hl 2 rfl) ?_
      obtain ⟨v_31, hv_31, hh_32⟩ := hh_30.pin (C := RX1) (T := TX1) (N := 17) hB3 rfl (by decide) hg_18 (i := 4) (by decide) rfl
      clear hh_30
      obtain ⟨sentences_33, rfl, hlosentences_33, hhisentences_33⟩ := hv_31
      refine j7_read hx hb hown hK (C := RX1) (T := TX1) (N := 17) rfl hly_3_4 hlk_168 (hh_32.at 0 rfl) dX11_aimAtName_62 ?_
      refine j7_put hx hb hown hK hh_32 hB hAp hB10 (C := RX8) (T := TX8) (N := 5) rfl (by decide) hg_20 (i := 2) (by decide) hly_10_2 rfl hlk_438 rfl (ty := .int) (v := .int sentences_33) (by decide +kernel) rfl rfl (⟨_, rfl⟩) rfl (L1 := [(ret_3, 3, 4, .int sentences_33), (r1, 10, 1, .ref ret_3), (r0, 13, 2, .ref js), (js, 6, 7, .int pv), (js, 6, 8, .int pu), (js, 6, 0, .ref wk), (js, 6, 1, .ref wi), (js, 6, 2, .ref wz), (js, 6, 5, .ref jks)]) [0, 1, 2, 3, 4, 5, 6, 7, 8] rfl rfl rfl dX11_aimAtName_65 (fun H_34 locs_34 hh_34 => ?_)
      clear hh_32
      refine lv_aload_n hx hb dX11_aimAtName_68 rfl (lv_at hl 4 rfl) ?_
      refine lv_iconst (v := 1) hx hb dX11_aimAtName_69 (by decide) ?_
      refine j7_put hx hb hown hK hh_34 hB hAp hB10 (C := RX8) (T := TX8) (N := 5) rfl (by decide) hg_20 (i := 3) (by decide) hly_10_3 rfl hlk_443 rfl (ty := .boolean) (v := .int 1) (by decide +kernel) (jb_nz (Or.inr rfl)) (jb_fz (Or.inr rfl)) (⟨_, rfl, (Or.inr rfl)⟩) rfl (L1 := [(r1, 10, 2, .int sentences_33), (ret_3, 3, 4, .int sentences_33), (r1, 10, 1, .ref ret_3), (r0, 13, 2, .ref js), (js, 6, 7, .int pv), (js, 6, 8, .int pu), (js, 6, 0, .ref wk), (js, 6, 1, .ref wi), (js, 6, 2, .ref wz), (js, 6, 5, .ref jks)]) [0, 1, 2, 3, 4, 5, 6, 7, 8, 9] rfl rfl rfl dX11_aimAtName_70 (fun H_35 locs_35 hh_35 => ?_)
      clear hh_34
      refine lv_aload_n hx hb dX11_aimAtName_73 rfl (lv_at hl 4 rfl) ?_
      refine lv_aload_n hx hb dX11_aimAtName_74 rfl (lv_at hl 3 rfl) ?_
      obtain ⟨v_36, hv_36, hh_37⟩ := hh_35.pin (C := RX11) (T := TX11) (N := 19) hB13 rfl (by decide) hg_19 (i := 5) (by decide) rfl
      clear hh_35
      obtain ⟨kernel_38, rfl, hg_kernel_38⟩ := hv_36
      refine j7_read hx hb hown hK (C := RX11) (T := TX11) (N := 19) rfl hly_13_5 hlk_41 (hh_37.at 0 rfl) dX11_aimAtName_75 ?_
      obtain ⟨v_39, hv_39, hh_40⟩ := hh_37.pin (C := RX5) (T := TX5) (N := 11) hB7 rfl (by decide) hg_kernel_38 (i := 0) (by decide) rfl
      clear hh_37
      obtain ⟨names_41, rfl, hg_names_41⟩ := hv_39
      refine j7_read hx hb hown hK (C := RX5) (T := TX5) (N := 11) rfl hly_7_0 hlk_47 (hh_40.at 0 rfl) dX11_aimAtName_78 ?_
      refine lv_aload hx hb dX11_aimAtName_81 (lv_at hl 0 rfl) ?_
      refine lv_iconst (v := 0) hx hb dX11_aimAtName_83 (by decide) ?_
      refine lv_aload hx hb dX11_aimAtName_84 (lv_at hl 0 rfl) ?_
      refine j7_len hx hb hK hh_40 hB101 1 rfl (by decide) hg_ret_29 (by omega) dX11_aimAtName_86 (fun z_42 hz_42 => ?_)
      refine lv_iconst (v := 0) hx hb dX11_aimAtName_87 (by decide) ?_
      obtain ⟨v_45, hv_45, hh_46⟩ := hh_40.pin (C := RX6) (T := TX6) (N := 4) hB8 rfl (by decide) hg_names_41 (i := 0) (by decide) rfl
      obtain ⟨stems_47, rfl, hg_stems_47⟩ := hv_45
      obtain ⟨v_48, hv_48, hh_49⟩ := hh_46.pin (C := RX6) (T := TX6) (N := 4) hB8 rfl (by decide) hg_names_41 (i := 1) (by decide) rfl
      obtain ⟨primes_50, rfl, hg_primes_50⟩ := hv_48
      obtain ⟨v_51, hv_51, hh_52⟩ := hh_49.pin (C := RX6) (T := TX6) (N := 4) hB8 rfl (by decide) hg_names_41 (i := 2) (by decide) rfl
      obtain ⟨slots_53, rfl, hg_slots_53⟩ := hv_51
      have hsz_43 := hh_52.2.2.2.2.2.1
      have htt_43 := hh_52.2.2.2.2.2.2.1
      refine W.room (fun hrc_43 hrs_43 => ?_)
      refine va_calli (A0 := jA base) (H0 := s.heap) (va_runV (As := [.ref ret_29, .int 0, .int z_42, .int 0]) (rest := [.ref r1]) ⟨hx, hb, hml, hown, hts⟩ (uX6_numberOfB l dC dI ca base B hB hAp hB8 hB101 hB102 hB132 hB133 G_16 H_35 names_41 ret_29 0 z_42 0 m_ret_16 stems_47 primes_50 slots_53) (cwV 4 hts (jgV (jWr_35 _ (List.mem_of_getElem? (i := 6) rfl)) (jWr_7 _ (List.mem_of_getElem? (i := 14) rfl)) (jWr_7 _ (List.mem_of_getElem? (i := 15) rfl)) (jWr_4 _ (List.mem_of_getElem? (i := 10) rfl)) (jWr_7 _ (List.mem_of_getElem? (i := 16) rfl))) rfl rfl rfl (by decide +kernel) ⟨by rw [← hR]; exact Nat.le_of_ble_eq_true rfl, by rw [← hR]; exact Nat.le_of_ble_eq_true rfl⟩) ⟨fun a U g mk q => by obtain ⟨q0, q1, q2, qK, q10, q11, q12, q13, q14, q15, q16⟩ := q; exact ⟨q0, q1, q2, jG.calling g mk a qK, q10, q11, q12, q13, q14, q15, q16⟩, hh_52.recv (C := RX6) (T := TX6) (N := 4) hB8 rfl (by decide) hg_names_41 hK, fun U hU hW => ⟨rfl, hU, hh_52.2.1, hG.step hW hU hh_52.1, hg_names_41, hg_ret_29, hg_stems_47, hg_primes_50, hg_slots_53, (hh_52.2.2.1.sub (L1 := [(names_41, 8, 0, .ref stems_47), (names_41, 8, 1, .ref primes_50), (names_41, 8, 2, .ref slots_53)]) [2, 1, 0] rfl), by first | omega | rfl | assumption | decide | exact Or.inl rfl | exact Or.inr rfl | (simp only; omega)⟩⟩ rfl rfl hl.1 rfl (lv_room (Nat.le_of_ble_eq_true rfl)) dX11_aimAtName_88 ⟨by rw [hRc]; show _ + 0 ≤ _; omega, by rw [hRs]; show _ + 0 ≤ _; omega⟩) hh_52.1 (fun q _ h => h) (fun q h => h) (fun r_44 u_43 t_43 H_43 locs_43 ht_43 hvm_43 hr_44 hb_43 hz_43 hk_43 hS_43 => ?_)
      rw [ht_43] at hb_43
      obtain ⟨hb_43, hbF_43⟩ := hb_43
      obtain ⟨hb_431, hb_432, hb_433, hb_434, hb_435⟩ := hb_43
      have hh_43 : jSt (dC, dI) B base G0 G_16 EX11_aimAtName s.heap (0 + (1)) (0 + (m_ret_16)) [(names_41, 8, 2, .ref slots_53), (names_41, 8, 1, .ref primes_50), (names_41, 8, 0, .ref stems_47), (kernel_38, 7, 0, .ref names_41), (r0, 13, 5, .ref kernel_38), (r1, 10, 3, .int 1), (r1, 10, 2, .int sentences_33), (ret_3, 3, 4, .int sentences_33), (r1, 10, 1, .ref ret_3), (r0, 13, 2, .ref js), (js, 6, 7, .int pv), (js, 6, 8, .int pu), (js, 6, 0, .ref wk), (js, 6, 1, .ref wi), (js, 6, 2, .ref wz), (js, 6, 5, .ref jks)] [(wk, 140, 1502, ca 1, fk), (wi, 141, 1502, ca 1, fi), (wz, 142, 1502, ca 1, fz), (jks, 145, 1502, ca 1, fs)] [(jFl, jLs dC dI ca G_16 3 none)] H_43 locs_43 := ((hh_52.call hb_431 hb_432 hb_433 hb_434 hS_43 rfl (L1 := [(names_41, 8, 2, .ref slots_53), (names_41, 8, 1, .ref primes_50), (names_41, 8, 0, .ref stems_47), (kernel_38, 7, 0, .ref names_41), (r0, 13, 5, .ref kernel_38), (r1, 10, 3, .int 1), (r1, 10, 2, .int sentences_33), (ret_3, 3, 4, .int sentences_33), (r1, 10, 1, .ref ret_3), (r0, 13, 2, .ref js), (js, 6, 7, .int pv), (js, 6, 8, .int pu), (js, 6, 0, .ref wk), (js, 6, 1, .ref wi), (js, 6, 2, .ref wz), (js, 6, 5, .ref jks)]) [0, 1, 2, 3, 4, 5, 6, 7, 8, 9, 10, 11, 12, 13, 14, 15] rfl rfl (M1 := [(wk, 140, 1502, ca 1, fk), (wi, 141, 1502, ca 1, fi), (wz, 142, 1502, ca 1, fz), (jks, 145, 1502, ca 1, fs)]) [0, 1, 2, 3] rfl rfl (I1 := [(jFl, jLs dC dI ca G_16 3 none)]) [0] rfl rfl).more hb_435)
      clear hh_52 ht_43 hvm_43 hz_43 hk_43 hS_43 hb_431 hb_432 hb_433 hb_434 hb_435
      obtain ⟨hr_44_0, hr_44_1⟩ := hr_44
      refine j7_put hx hb hown hK hh_43 hB hAp hB10 (C := RX8) (T := TX8) (N := 5) rfl (by decide) hg_20 (i := 4) (by decide) hly_10_4 rfl hlk_451 rfl (ty := .int) (v := .int r_44) (by decide +kernel) rfl rfl (⟨_, rfl⟩) rfl (L1 := [(names_41, 8, 2, .ref slots_53), (names_41, 8, 1, .ref primes_50), (names_41, 8, 0, .ref stems_47), (kernel_38, 7, 0, .ref names_41), (r0, 13, 5, .ref kernel_38), (r1, 10, 3, .int 1), (r1, 10, 2, .int sentences_33), (ret_3, 3, 4, .int sentences_33), (r1, 10, 1, .ref ret_3), (r0, 13, 2, .ref js), (js, 6, 7, .int pv), (js, 6, 8, .int pu), (js, 6, 0, .ref wk), (js, 6, 1, .ref wi), (js, 6, 2, .ref wz), (js, 6, 5, .ref jks)]) [0, 1, 2, 3, 4, 5, 6, 7, 8, 9, 10, 11, 12, 13, 14, 15] rfl rfl rfl dX11_aimAtName_91 (fun H_54 locs_54 hh_54 => ?_)
      clear hh_43
      refine lv_iconst (v := 1) hx hb dX11_aimAtName_94 (by decide) ?_
      have hsz_55 := hh_54.2.2.2.2.2.1
      have htt_55 := hh_54.2.2.2.2.2.2.1
      refine W.room (fun hrc_55 hrs_55 => ?_)
      refine W.widen (k := LC - s.heap.size) (n := LS - jTot s.heap) (by omega) (by omega) ?_
      rw [hQ]
      exact W.zret (v := 1) hx hb hr (jb_nz (Or.inr rfl)) (fun t ht hW => ⟨⟨1, G_16, rfl, ⟨(Or.inr rfl), trivial⟩, ⟨hh_54.ra (by first | omega | (simp only; omega)) (by first | omega | (simp only; omega)) (M1 := []) [] rfl ht, hNn_16, by rw [ht]; exact hh_54.2.2.2.2.2.2.2.2.sub (L1 := [(jFl, jLs dC dI ca G_16 3 none)]) [0] rfl⟩⟩, by rw [ht]; try exact hh_54.1.1, fun q h9 hq => by rw [ht]; try exact hh_54.1.2.1 q h9 hq⟩) hh_54.1.2.2 dX11_aimAtName_95
    · skip
      have c_15' : r_14.toInt ≠ 3 := jb_eq_n (rfl) ((by decide)) c_15
      try clear hr_14
      refine lv_iconst (v := 0) hx hb dX11_aimAtName_43 (by decide) ?_
      have hsz_56 := hh_13.2.2.2.2.2.1
      have htt_56 := hh_13.2.2.2.2.2.2.1
      refine W.room (fun hrc_56 hrs_56 => ?_)
      refine W.widen (k := LC - s.heap.size) (n := LS - jTot s.heap) (by omega) (by omega) ?_
      rw [hQ]
      exact W.zret (v := 0) hx hb hr (jb_nz (Or.inl rfl)) (fun t ht hW => ⟨⟨0, G0, rfl, ⟨(Or.inl rfl), trivial⟩, ⟨hh_13.ra (by first | omega | (simp only; omega)) (by first | omega | (simp only; omega)) (M1 := []) [] rfl ht, jNk.rf, by rw [ht]; exact hh_13.2.2.2.2.2.2.2.2.sub (L1 := [(jFl, jLs dC dI ca G0 3 none)]) [0] rfl⟩⟩, by rw [ht]; try exact hh_13.1.1, fun q h9 hq => by rw [ht]; try exact hh_13.1.2.1 q h9 hq⟩) hh_13.1.2.2 dX11_aimAtName_44
set_option maxHeartbeats 4000000 in
set_option maxRecDepth 20000 in
theorem uX11_cancelRequest (l : Launch) (dC : Nat → ClassId) (dI : Nat → Nat → Nat) (ca : Nat → ClassId) (base : Nat) (B : jF) (hB : jBok B) (hAp : jAp (dC, dI)) (hB1 : ∀ n G a H, B 1 n G a H ↔ jOb (dC, dI) 1 3 (F1 n G) a H) (hB2 : ∀ n G a H, B 2 n G a H ↔ jOb (dC, dI) 2 2 (F2 n G) a H) (hB3 : ∀ n G a H, B 3 n G a H ↔ jOb (dC, dI) 3 17 (F3 n G) a H) (hB4 : ∀ n G a H, B 4 n G a H ↔ jOb (dC, dI) 4 12 (F4 n G) a H) (hB6 : ∀ n G a H, B 6 n G a H ↔ jOb (dC, dI) 6 12 (F6 n G) a H) (hB10 : ∀ n G a H, B 10 n G a H ↔ jOb (dC, dI) 10 5 (F10 n G) a H) (hB13 : ∀ n G a H, B 13 n G a H ↔ jOb (dC, dI) 13 19 (F13 n G) a H) (hB101 : ∀ n G a H, B 101 n G a H ↔ jAr (dC, dI) (ca 1) (fun j z => True) n a H) (hB140 : ∀ n G a H, B 140 n G a H ↔ jAr (dC, dI) (ca 1) (fun j z => True) n a H) (hB141 : ∀ n G a H, B 141 n G a H ↔ jAr (dC, dI) (ca 1) (fun j z => True) n a H) (hB142 : ∀ n G a H, B 142 n G a H ↔ jAr (dC, dI) (ca 1) (fun j z => True) n a H) (hB143 : ∀ n G a H, B 143 n G a H ↔ jAr (dC, dI) (ca 1) (fun j z => True) n a H) (hB144 : ∀ n G a H, B 144 n G a H ↔ jAr (dC, dI) (ca 1) (fun j z => 0 ≤ z.toInt ∧ z.toInt ≤ 3000) n a H) (hB145 : ∀ n G a H, B 145 n G a H ↔ jAr (dC, dI) (ca 1) (fun j z => True) n a H) (hB146 : ∀ n G a H, B 146 n G a H ↔ jAr (dC, dI) (ca 1) (fun j z => True) n a H) (hB196 : ∀ n G a H, B 196 n G a H ↔ jAr (dC, dI) (ca 0) (fun j z => jBf j z) n a H) (hB222 : ∀ n G a H, B 222 n G a H ↔ jAq (dC, dI) (ca 9) (jQn 10 0) n G a H) (G0 : jT) (H0 : Heap) (r0 : Nat) (bo : Nat) (pc : Int32) (pa : Nat) (n_pa : Nat) (ou : Nat) (js : Nat) (pv : Int32) (pu : Int32) (wk : Nat) (wi : Nat) (wz : Nat) (jks : Nat) (fk : Nat → Int32) (fi : Nat → Int32) (fz : Nat → Int32) (fs : Nat → Int32) (LC LS : Nat) : Met l yX11_cancelRequest (jw yX11_cancelRequest cX11_cancelRequest 3 none) ({ frames := 7, cells := LC - H0.size, slots := LS - jTot H0, locals := 214 }) (va_Pc [.ref r0] (fun U => U.heap = H0 ∧ jX B base G0 [] H0 ∧ jG dC dI ca base U ∧ jK5 dC dI ca U ∧ jK7 dC dI ca base U ∧ G0 r0 = some (13, 0) ∧ G0 bo = some (2, 0) ∧ G0 pa = some (196, n_pa) ∧ G0 ou = some (2, 20000) ∧ G0 js = some (6, 0) ∧ G0 wk = some (140, 1502) ∧ G0 wi = some (141, 1502) ∧ G0 wz = some (142, 1502) ∧ G0 jks = some (145, 1502) ∧ jP (dC, dI) G0 H0 [(r0, 13, 4, .ref bo), (bo, 2, 1, .int pc), (bo, 2, 0, .ref pa), (r0, 13, 3, .ref ou), (r0, 13, 2, .ref js), (js, 6, 7, .int pv), (js, 6, 8, .int pu), (js, 6, 0, .ref wk), (js, 6, 1, .ref wi), (js, 6, 2, .ref wz), (js, 6, 5, .ref jks)] ∧ jMc (dC, dI) G0 H0 [(wk, 140, 1502, ca 1, fk), (wi, 141, 1502, ca 1, fi), (wz, 142, 1502, ca 1, fz), (jks, 145, 1502, ca 1, fs)] ∧ jIs (dC, dI) G0 H0 [(jFy, jYb dC dI G0), (jFl, jLs dC dI ca G0 3 none)] ∧ H0.size + (1048576 - n_pa) / 16 + 20 ≤ LC ∧ jTot H0 + 2 * (1048576 - n_pa) + 3400 ≤ LS ∧ 0 ≤ pc.toInt ∧ pc.toInt ≤ n_pa ∧ 16 ≤ n_pa ∧ n_pa ≤ 1048576 ∧ jPw n_pa ∧ 0 ≤ pv.toInt ∧ pv.toInt ≤ 1502 ∧ 0 ≤ pu.toInt ∧ pu.toInt ≤ 3000 ∧ jJq fk fi fz pv.toInt ∧ jJu fk fz pv.toInt pu.toInt)) (va_Qv (S := Int32 × Nat × Nat × jT) (fun u => 0 ≤ u.1.toInt ∧ u.1.toInt ≤ u.2.2.1 ∧ n_pa ≤ u.2.2.1 ∧ u.2.2.1 ≤ 1048576 ∧ jPw u.2.2.1) (fun u t => jRa (dC, dI) B base G0 u.2.2.2 EX11_cancelRequest H0 ((u.2.2.1 - n_pa) / 16 + 11) (2 * (u.2.2.1 - n_pa) + 267) [(bo, 2, 1, .int u.1), (bo, 2, 0, .ref u.2.1)] t.heap ∧ u.2.2.2 u.2.1 = some (196, u.2.2.1) ∧ (jNk [0, 1, 3, 4, 5, 6, 7, 8, 9, 11, 12, 13, 14, 15, 16]) G0 u.2.2.2 ∧ jOl (dC, dI) G0 2 [bo, ou] H0 t.heap ∧ jIs (dC, dI) u.2.2.2 t.heap [(jFy, jYb dC dI u.2.2.2), (jFl, jLs dC dI ca u.2.2.2 3 none)]) (jA base)) (LC - H0.size) (LS - jTot H0) (jA base) := by
  refine Met.ofW (cc := cX11_cancelRequest) (maxL := 3) (ret := none) (by decide) rfl ?_
  intro p e s m args below meth c s₁ Bd hml hv
  obtain ⟨rfl, hH0, hX, hG, hK5, hK7, hg_r0, hg_bo, hg_pa, hg_ou, hg_js, hg_wk, hg_wi, hg_wz, hg_jks, hP0, hM0, hI0, hLC0, hLS0, hp0, hp1, hp2, hp3, hp4, hp5, hp6, hp7, hp8, hp9, hp10⟩ := hv
  have hK := hG.1
  have hx := Bd.exec
  have hb := Bd.bytes
  have hr := Bd.returns
  have hts := atoms_spec (ws := (jw yX11_cancelRequest cX11_cancelRequest 3 none)) Bd.pre
  have htw : ∀ w ∈ jWl, w.before _ s = true := fun w h => hts w (List.mem_cons_of_mem _ h)
  have hown : s.vm.findClass RX11 = some m.cls := findClass_of_methodNamed Bd.named
  have hlocks := Bd.notSynchronized
  obtain ⟨Q, hQ⟩ : ∃ Q, Q = MQ below (va_Qv (S := Int32 × Nat × Nat × jT) (fun u => 0 ≤ u.1.toInt ∧ u.1.toInt ≤ u.2.2.1 ∧ n_pa ≤ u.2.2.1 ∧ u.2.2.1 ≤ 1048576 ∧ jPw u.2.2.1) (fun u t => jRa (dC, dI) B base G0 u.2.2.2 EX11_cancelRequest H0 ((u.2.2.1 - n_pa) / 16 + 11) (2 * (u.2.2.1 - n_pa) + 267) [(bo, 2, 1, .int u.1), (bo, 2, 0, .ref u.2.1)] t.heap ∧ u.2.2.2 u.2.1 = some (196, u.2.2.1) ∧ (jNk [0, 1, 3, 4, 5, 6, 7, 8, 9, 11, 12, 13, 14, 15, 16]) G0 u.2.2.2 ∧ jOl (dC, dI) G0 2 [bo, ou] H0 t.heap ∧ jIs (dC, dI) u.2.2.2 t.heap [(jFy, jYb dC dI u.2.2.2), (jFl, jLs dC dI ca u.2.2.2 3 none)]) (jA base)) ([.ref r0] : List Value).toArray s (LC - H0.size) (LS - jTot H0) (jA base) := ⟨_, rfl⟩
  rw [← hQ]
  have hl := lv_entry ([.ref r0]) (n := 3) (Nat.le_of_ble_eq_true rfl)
  rw [lg_entry_eq]
  generalize (lg_sl ([.ref r0]) ++ List.replicate (3 - (lg_sl ([.ref r0])).length) Slot.unset).toArray = ls at hl ⊢
  have hl : lv_has ls 3 [(0, .ref r0)] := hl
  generalize hR : (headSpec (jw yX11_cancelRequest cX11_cancelRequest 3 none) ({ frames := 7, cells := LC - H0.size, slots := LS - jTot H0, locals := 214 })).room = R
  subst hH0
  have hh : jSt (dC, dI) B base G0 G0 EX11_cancelRequest s.heap 0 0 [(r0, 13, 4, .ref bo), (bo, 2, 1, .int pc), (bo, 2, 0, .ref pa), (r0, 13, 3, .ref ou), (r0, 13, 2, .ref js), (js, 6, 7, .int pv), (js, 6, 8, .int pu), (js, 6, 0, .ref wk), (js, 6, 1, .ref wi), (js, 6, 2, .ref wz), (js, 6, 5, .ref jks)] [(wk, 140, 1502, ca 1, fk), (wi, 141, 1502, ca 1, fi), (wz, 142, 1502, ca 1, fz), (jks, 145, 1502, ca 1, fs)] [(jFy, jYb dC dI G0), (jFl, jLs dC dI ca G0 3 none)] s.heap [] := jSt.start hX hP0 hM0 hI0
  clear hX hP0
  have hkm32800 : ((-32800) : Int32).toInt = (-32800) := by decide
  have hk0 : (0 : Int32).toInt = 0 := by decide
  have hk1 : (1 : Int32).toInt = 1 := by decide
  have hly_13_2 := htw (u_lay RX11 TX11 2) (jWc_wsX110 _ (u_in_lay (by decide)))
  have hly_13_8 := htw (u_lay RX11 TX11 8) (jWc_wsX110 _ (u_in_lay (by decide)))
  have hlk_28 := (htw (.fieldLink RX11 28 "ProofServer" "json" "LProofServer$Json;") (jWr_1 _ (List.mem_of_getElem? (i := 23) rfl)))
  obtain ⟨str271, rstr271, hstr2710⟩ := hG.str (o := RX11) (k := 271) (tx := "params") (List.mem_of_getElem? (i := 852) (by decide +kernel))
  have hstr271 : jStr base str271 6 s s.heap := hstr2710
  obtain ⟨str259, rstr259, hstr2590⟩ := hG.str (o := RX11) (k := 259) (tx := "id") (List.mem_of_getElem? (i := 730) (by decide +kernel))
  have hstr259 : jStr base str259 2 s s.heap := hstr2590
  have hlk_65 := (htw (.fieldLink RX11 65 "ProofServer" "waiting" "Ljava/util/List;") (jWr_2 _ (List.mem_of_getElem? (i := 15) rfl)))
  have hcs_429 := htw (.constant RX11 429 (-32800)) (jWr_43 _ (List.mem_of_getElem? (i := 22) rfl))
  have hbs : base ≤ s.heap.size := Nat.le_of_lt (Nat.lt_of_le_of_lt (hh.ab hg_r0).1 (hh.ab hg_r0).2)
  have hRc : R.cells = LC - s.heap.size := by rw [← hR]; rfl
  have hRs : R.slots = LS - jTot s.heap := by rw [← hR]; rfl
  have hh_1 := hh.addI (jOl.ie (dC := dC) (dI := dI) (G0 := G0) (k := 2) (rs := [bo, ou]) (H0 := s.heap) (F := [(2, 0), (2, 1)]) (C := RX0) (T := TX0) (N := 2) rfl (by decide) hh.2.2.2.2.1 (jOl.rf))
  clear hh
  have hsz_2 := hh_1.2.2.2.2.2.1
  have htt_2 := hh_1.2.2.2.2.2.2.1
  refine j7_newo (k := 10) (C := RX8) (T := TX8) (N := 5) (fs := [.null, .null, .int 0, .int 0, .int 0]) hx hb htw jWc_wsX80 (fun k => ([(.object "ProofServer$Bytes"), (.object "ProofServer$Document"), .int, .boolean, .int] : List FieldType).getD k .int) (by decide +kernel) hown (htw (.classLink RX11 115 RX8) (jWr_19 _ (List.mem_of_getElem? (i := 3) rfl))) (htw (.instantiable RX8 5) (jWr_19 _ (List.mem_of_getElem? (i := 4) rfl))) (htw (.initialized RX8) (jWr_19 _ (List.mem_of_getElem? (i := 5) rfl))) hK rfl (fun j hj => by rcases (by omega : j = 0 ∨ j = 1 ∨ j = 2 ∨ j = 3 ∨ j = 4) with rfl | rfl | rfl | rfl | rfl <;> rfl) hh_1 hB (by rw [hRc]; omega) (by rw [hRs]; omega) dX11_cancelRequest_0 (fun H_2 hraw_2 hfr_2 hnr_2 hh_2 => ?_)
  have hke_2 : jKe G0 G0 s.heap H_2 := jKe.raw hfr_2
  have hbr_2 : base ≤ s.heap.size := Nat.le_trans hbs hh_1.1.1
  have hsy_2 : s.heap.size ≤ s.heap.size := hh_1.1.1
  clear hh_1
  refine lv_dup hx hb dX11_cancelRequest_3 rfl ?_
  refine lv_aload_n hx hb dX11_cancelRequest_4 rfl (lv_at hl 0 rfl) ?_
  refine j7_read hx hb hown hK (C := RX11) (T := TX11) (N := 19) rfl hly_13_2 hlk_28 (hh_2.at 4 rfl) dX11_cancelRequest_5 ?_
  refine lv_aload_n hx hb dX11_cancelRequest_8 rfl (lv_at hl 0 rfl) ?_
  refine j7_read hx hb hown hK (C := RX11) (T := TX11) (N := 19) rfl hly_13_2 hlk_28 (hh_2.at 4 rfl) dX11_cancelRequest_9 ?_
  refine lv_aload_n hx hb dX11_cancelRequest_12 rfl (lv_at hl 0 rfl) ?_
  refine j7_read hx hb hown hK (C := RX11) (T := TX11) (N := 19) rfl hly_13_2 hlk_28 (hh_2.at 4 rfl) dX11_cancelRequest_13 ?_
  refine lv_iconst (v := 0) hx hb dX11_cancelRequest_16 (by decide) ?_
  refine j_ldcSw hx hb hown rstr271 dX11_cancelRequest_17 ?_
  have hsz_3 := hh_2.2.2.2.2.2.1
  have htt_3 := hh_2.2.2.2.2.2.2.1
  refine W.room (fun hrc_3 hrs_3 => ?_)
  refine va_calli (A0 := jA base) (H0 := s.heap) (va_runV (As := [.int 0, .ref str271]) (rest := [.ref js, .ref js, .ref s.heap.size, .ref s.heap.size]) ⟨hx, hb, hml, hown, hts⟩ (uX4_memberQ l dC dI ca base B hB hAp hB6 hB140 hB141 hB142 hB143 hB144 hB145 hB146 G0 H_2 js 0 str271 6 pv wk wi wz jks fk fi fz fs) (cwV 2 hts (jgV (jWr_23 _ (List.mem_of_getElem? (i := 10) rfl)) (jWr_23 _ (List.mem_of_getElem? (i := 11) rfl)) (jWr_23 _ (List.mem_of_getElem? (i := 12) rfl)) (jWr_1 _ (List.mem_of_getElem? (i := 22) rfl)) (jWr_23 _ (List.mem_of_getElem? (i := 13) rfl))) rfl rfl rfl (by decide +kernel) ⟨by rw [← hR]; exact Nat.le_of_ble_eq_true rfl, by rw [← hR]; exact Nat.le_of_ble_eq_true rfl⟩) ⟨fun a U g mk q => by obtain ⟨q0, q1, q2, qK, q10, q11, q12, q13, q14, q15, q16, q17, q18⟩ := q; exact ⟨q0, q1, q2, jG.calling g mk a qK, (q10.moved (Vm.Alike.refl U.vm)), q11, q12, q13, q14, q15, q16, q17, q18⟩, hh_2.recv (C := RX4) (T := TX4) (N := 12) hB6 rfl (by decide) hg_js hK, fun U hU hW => ⟨rfl, hU, hh_2.2.1, hG.step hW hU hh_2.1, (hstr271.moved hW.alike).kept hh_2.1.2.1, hg_js, hg_wk, hg_wi, hg_wz, hg_jks, (hh_2.2.2.1.sub (L1 := [(js, 6, 7, .int pv), (js, 6, 0, .ref wk), (js, 6, 1, .ref wi), (js, 6, 2, .ref wz), (js, 6, 5, .ref jks)]) [5, 7, 8, 9, 10] rfl), (hh_2.2.2.2.2.2.2.2.1.sub (L1 := [(wk, 140, 1502, ca 1, fk), (wi, 141, 1502, ca 1, fi), (wz, 142, 1502, ca 1, fz), (jks, 145, 1502, ca 1, fs)]) [0, 1, 2, 3] rfl), ⟨(by first | omega | rfl | assumption | fail), (by first | omega | rfl | assumption | fail), (by first | omega | rfl | assumption | fail)⟩⟩⟩ rfl rfl hl.1 rfl (lv_room (Nat.le_of_ble_eq_true rfl)) dX11_cancelRequest_20 ⟨by rw [hRc]; show _ + 0 ≤ _; omega, by rw [hRs]; show _ + 0 ≤ _; omega⟩) hh_2.1 (fun q _ h => h) (fun q h => h) (fun r_4 u_3 t_3 H_3 locs_3 ht_3 hvm_3 hr_4 hb_3 hz_3 hk_3 hS_3 => ?_)
  rw [ht_3] at hb_3
  obtain ⟨hb_3, hbF_3⟩ := hb_3
  obtain ⟨hb_31, hb_32, hb_33, hb_34, hb_35⟩ := hb_3
  have hh_3 : jSt (dC, dI) B base G0 G0 EX11_cancelRequest s.heap (0 + 1) (0 + 5) [(r0, 13, 4, .ref bo), (bo, 2, 1, .int pc), (bo, 2, 0, .ref pa), (r0, 13, 3, .ref ou), (r0, 13, 2, .ref js), (js, 6, 7, .int pv), (js, 6, 8, .int pu), (js, 6, 0, .ref wk), (js, 6, 1, .ref wi), (js, 6, 2, .ref wz), (js, 6, 5, .ref jks)] [(wk, 140, 1502, ca 1, fk), (wi, 141, 1502, ca 1, fi), (wz, 142, 1502, ca 1, fz), (jks, 145, 1502, ca 1, fs)] [([(2, 0), (2, 1)], jOl (dC, dI) G0 2 [bo, ou] s.heap), (jFy, jYb dC dI G0), (jFl, jLs dC dI ca G0 3 none)] H_3 locs_3 := ((hh_2.call hb_31 hb_32 hb_33 hb_34 hS_3 rfl (L1 := [(r0, 13, 4, .ref bo), (bo, 2, 1, .int pc), (bo, 2, 0, .ref pa), (r0, 13, 3, .ref ou), (r0, 13, 2, .ref js), (js, 6, 7, .int pv), (js, 6, 8, .int pu), (js, 6, 0, .ref wk), (js, 6, 1, .ref wi), (js, 6, 2, .ref wz), (js, 6, 5, .ref jks)]) [0, 1, 2, 3, 4, 5, 6, 7, 8, 9, 10] rfl rfl (M1 := [(wk, 140, 1502, ca 1, fk), (wi, 141, 1502, ca 1, fi), (wz, 142, 1502, ca 1, fz), (jks, 145, 1502, ca 1, fs)]) [0, 1, 2, 3] rfl rfl (I1 := [([(2, 0), (2, 1)], jOl (dC, dI) G0 2 [bo, ou] s.heap), (jFy, jYb dC dI G0), (jFl, jLs dC dI ca G0 3 none)]) [0, 1, 2] rfl rfl).more hb_35)
  clear hh_2 ht_3 hvm_3 hz_3 hk_3 hS_3 hb_31 hb_32 hb_33 hb_34 hb_35
  have hraw_5 := hraw_2.kept (hbF_3 _ (by simp))
  obtain ⟨hr_4_0, hr_4_1, hr_4_2⟩ := hr_4
  refine j_ldcSw hx hb hown rstr259 dX11_cancelRequest_23 ?_
  have hsz_6 := hh_3.2.2.2.2.2.1
  have htt_6 := hh_3.2.2.2.2.2.2.1
  refine W.room (fun hrc_6 hrs_6 => ?_)
  refine va_calli (A0 := jA base) (H0 := s.heap) (va_runV (As := [.int r_4, .ref str259]) (rest := [.ref js, .ref s.heap.size, .ref s.heap.size]) ⟨hx, hb, hml, hown, hts⟩ (uX4_memberQ l dC dI ca base B hB hAp hB6 hB140 hB141 hB142 hB143 hB144 hB145 hB146 G0 H_3 js r_4 str259 2 pv wk wi wz jks fk fi fz fs) (cwV 2 hts (jgV (jWr_23 _ (List.mem_of_getElem? (i := 10) rfl)) (jWr_23 _ (List.mem_of_getElem? (i := 11) rfl)) (jWr_23 _ (List.mem_of_getElem? (i := 12) rfl)) (jWr_1 _ (List.mem_of_getElem? (i := 22) rfl)) (jWr_23 _ (List.mem_of_getElem? (i := 13) rfl))) rfl rfl rfl (by decide +kernel) ⟨by rw [← hR]; exact Nat.le_of_ble_eq_true rfl, by rw [← hR]; exact Nat.le_of_ble_eq_true rfl⟩) ⟨fun a U g mk q => by obtain ⟨q0, q1, q2, qK, q10, q11, q12, q13, q14, q15, q16, q17, q18⟩ := q; exact ⟨q0, q1, q2, jG.calling g mk a qK, (q10.moved (Vm.Alike.refl U.vm)), q11, q12, q13, q14, q15, q16, q17, q18⟩, hh_3.recv (C := RX4) (T := TX4) (N := 12) hB6 rfl (by decide) hg_js hK, fun U hU hW => ⟨rfl, hU, hh_3.2.1, hG.step hW hU hh_3.1, (hstr259.moved hW.alike).kept hh_3.1.2.1, hg_js, hg_wk, hg_wi, hg_wz, hg_jks, (hh_3.2.2.1.sub (L1 := [(js, 6, 7, .int pv), (js, 6, 0, .ref wk), (js, 6, 1, .ref wi), (js, 6, 2, .ref wz), (js, 6, 5, .ref jks)]) [5, 7, 8, 9, 10] rfl), (hh_3.2.2.2.2.2.2.2.1.sub (L1 := [(wk, 140, 1502, ca 1, fk), (wi, 141, 1502, ca 1, fi), (wz, 142, 1502, ca 1, fz), (jks, 145, 1502, ca 1, fs)]) [0, 1, 2, 3] rfl), ⟨(by first | omega | rfl | assumption | fail), (by first | omega | rfl | assumption | fail), (by first | omega | rfl | assumption | fail)⟩⟩⟩ rfl rfl hl.1 rfl (lv_room (Nat.le_of_ble_eq_true rfl)) dX11_cancelRequest_26 ⟨by rw [hRc]; show _ + 0 ≤ _; omega, by rw [hRs]; show _ + 0 ≤ _; omega⟩) hh_3.1 (fun q _ h => h) (fun q h => h) (fun r_7 u_6 t_6 H_6 locs_6 ht_6 hvm_6 hr_7 hb_6 hz_6 hk_6 hS_6 => ?_)
  rw [ht_6] at hb_6
  obtain ⟨hb_6, hbF_6⟩ := hb_6
  obtain ⟨hb_61, hb_62, hb_63, hb_64, hb_65⟩ := hb_6
  have hh_6 : jSt (dC, dI) B base G0 G0 EX11_cancelRequest s.heap (0 + 1) (0 + 5) [(r0, 13, 4, .ref bo), (bo, 2, 1, .int pc), (bo, 2, 0, .ref pa), (r0, 13, 3, .ref ou), (r0, 13, 2, .ref js), (js, 6, 7, .int pv), (js, 6, 8, .int pu), (js, 6, 0, .ref wk), (js, 6, 1, .ref wi), (js, 6, 2, .ref wz), (js, 6, 5, .ref jks)] [(wk, 140, 1502, ca 1, fk), (wi, 141, 1502, ca 1, fi), (wz, 142, 1502, ca 1, fz), (jks, 145, 1502, ca 1, fs)] [([(2, 0), (2, 1)], jOl (dC, dI) G0 2 [bo, ou] s.heap), (jFy, jYb dC dI G0), (jFl, jLs dC dI ca G0 3 none)] H_6 locs_6 := ((hh_3.call hb_61 hb_62 hb_63 hb_64 hS_6 rfl (L1 := [(r0, 13, 4, .ref bo), (bo, 2, 1, .int pc), (bo, 2, 0, .ref pa), (r0, 13, 3, .ref ou), (r0, 13, 2, .ref js), (js, 6, 7, .int pv), (js, 6, 8, .int pu), (js, 6, 0, .ref wk), (js, 6, 1, .ref wi), (js, 6, 2, .ref wz), (js, 6, 5, .ref jks)]) [0, 1, 2, 3, 4, 5, 6, 7, 8, 9, 10] rfl rfl (M1 := [(wk, 140, 1502, ca 1, fk), (wi, 141, 1502, ca 1, fi), (wz, 142, 1502, ca 1, fz), (jks, 145, 1502, ca 1, fs)]) [0, 1, 2, 3] rfl rfl (I1 := [([(2, 0), (2, 1)], jOl (dC, dI) G0 2 [bo, ou] s.heap), (jFy, jYb dC dI G0), (jFl, jLs dC dI ca G0 3 none)]) [0, 1, 2] rfl rfl).more hb_65)
  clear hh_3 ht_6 hvm_6 hz_6 hk_6 hS_6 hb_61 hb_62 hb_63 hb_64 hb_65
  have hraw_8 := hraw_5.kept (hbF_6 _ (by simp))
  obtain ⟨hr_7_0, hr_7_1, hr_7_2⟩ := hr_7
  have hsz_9 := hh_6.2.2.2.2.2.1
  have htt_9 := hh_6.2.2.2.2.2.2.1
  refine W.room (fun hrc_9 hrs_9 => ?_)
  refine va_callv (A0 := jA base) (H0 := s.heap) (va_runI (As := [.ref js, .int r_7]) (rest := [.ref s.heap.size]) ⟨hx, hb, hml, hown, hts⟩ (uX8_init l dC dI ca base B hB hAp hB2 hB6 hB10 hB101 hB140 hB141 hB142 hB146 hB196 G0 H_6 s.heap.size js r_7 pv wk wi wz fk fi fz LC LS) (cwI 2 hts (jgW (jWr_24 _ (List.mem_of_getElem? (i := 0) rfl))) rfl rfl rfl (htw (.initialized RX8) (jWr_19 _ (List.mem_of_getElem? (i := 5) rfl))) (htw (.methodLink RX11 264 yX8_init) (jWr_23 _ (List.mem_of_getElem? (i := 22) rfl))) (htw (.instanceMethod yX8_init) (jWr_23 _ (List.mem_of_getElem? (i := 23) rfl))) rfl (by decide +kernel) ⟨by rw [← hR]; exact Nat.le_of_ble_eq_true rfl, by rw [← hR]; exact Nat.le_of_ble_eq_true rfl⟩) ⟨fun a U g mk q => by obtain ⟨q0, q1, q2, qK, q10, q11, q12, q13, q14, q15, q16, q17, q18, q19, q20⟩ := q; exact ⟨q0, q1, q2, jG.calling g mk a qK, q10, q11, q12, q13, q14, q15, q16, q17, q18, q19, q20⟩, fun U hU hW => ⟨rfl, hU, hh_6.2.1, hG.step hW hU hh_6.1, hg_js, hraw_8, hnr_2, hbr_2, hg_wk, hg_wi, hg_wz, (hh_6.2.2.1.sub (L1 := [(js, 6, 7, .int pv), (js, 6, 0, .ref wk), (js, 6, 1, .ref wi), (js, 6, 2, .ref wz)]) [5, 7, 8, 9] rfl), (hh_6.2.2.2.2.2.2.2.1.sub (L1 := [(wk, 140, 1502, ca 1, fk), (wi, 141, 1502, ca 1, fi), (wz, 142, 1502, ca 1, fz)]) [0, 1, 2] rfl), (hh_6.2.2.2.2.2.2.2.2.sub (L1 := [(jFy, jYb dC dI G0)]) [1] rfl), (by omega), (by omega), ⟨(by first | omega | rfl | assumption | fail), (by first | omega | rfl | assumption | fail), (by first | assumption | fail | omega)⟩⟩⟩ rfl rfl hl.1 rfl (lv_room (Nat.le_of_ble_eq_true rfl)) dX11_cancelRequest_29 ⟨by rw [hRc]; omega, by rw [hRs]; omega⟩) hh_6.1 (fun q _ h => h) (fun q h => h) (fun u_9 t_9 H_9 locs_9 ht_9 hvm_9 hr_10 hb_9 hz_9 hk_9 hS_9 => ?_)
  rw [ht_9] at hb_9
  obtain ⟨G_9, rfl⟩ : ∃ z, z = u_9 := ⟨_, rfl⟩
  try simp only at hb_9
  obtain ⟨⟨hb_91, hb_92, hb_93, hb_94, hb_95, hb_96⟩, hN_9, hbO_9, hgc_9, hbE_9⟩ := hb_9
  have hh_9 : jSt (dC, dI) B base G0 G_9 EX11_cancelRequest s.heap ((0 + 1) + (10)) ((0 + 5) + (262)) [(r0, 13, 4, .ref bo), (r0, 13, 3, .ref ou), (r0, 13, 2, .ref js), (js, 6, 7, .int pv), (js, 6, 8, .int pu), (js, 6, 0, .ref wk), (js, 6, 1, .ref wi), (js, 6, 2, .ref wz), (js, 6, 5, .ref jks)] [(wk, 140, 1502, ca 1, fk), (wi, 141, 1502, ca 1, fi), (wz, 142, 1502, ca 1, fz), (jks, 145, 1502, ca 1, fs)] [(jFl, jLs dC dI ca G0 3 none)] H_9 locs_9 := (hh_6.callG hb_91 hb_92 hb_93 hb_94 hb_95 hS_9 rfl (L1 := [(r0, 13, 4, .ref bo), (r0, 13, 3, .ref ou), (r0, 13, 2, .ref js), (js, 6, 7, .int pv), (js, 6, 8, .int pu), (js, 6, 0, .ref wk), (js, 6, 1, .ref wi), (js, 6, 2, .ref wz), (js, 6, 5, .ref jks)]) [0, 3, 4, 5, 6, 7, 8, 9, 10] rfl rfl (M1 := [(wk, 140, 1502, ca 1, fk), (wi, 141, 1502, ca 1, fi), (wz, 142, 1502, ca 1, fz), (jks, 145, 1502, ca 1, fs)]) [0, 1, 2, 3] rfl rfl (I1 := [(jFl, jLs dC dI ca G0 3 none)]) [2] rfl rfl).more hb_96
  have hNn_9 : (jNk [0, 1, 3, 4, 5, 6, 7, 8, 9, 11, 12, 13, 14, 15, 16]) G0 G_9 := (jNk.rf).tr hN_9
  have hg_11 := hb_92 _ _ hg_r0
  have hg_12 := hb_92 _ _ hg_bo
  have hg_13 := hb_92 _ _ hg_ou
  have hg_14 := hb_92 _ _ hg_js
  have hg_15 := hb_92 _ _ hg_wk
  have hg_16 := hb_92 _ _ hg_wi
  have hg_17 := hb_92 _ _ hg_wz
  have hg_18 := hb_92 _ _ hg_jks
  have hd_19 := jLs.grow (hh_9.iv 0 rfl) hb_92 hN_9 (by decide)
  have hh_20 := hh_9.sub (L1 := [(r0, 13, 4, .ref bo), (r0, 13, 3, .ref ou), (r0, 13, 2, .ref js), (js, 6, 7, .int pv), (js, 6, 8, .int pu), (js, 6, 0, .ref wk), (js, 6, 1, .ref wi), (js, 6, 2, .ref wz), (js, 6, 5, .ref jks)]) [0, 1, 2, 3, 4, 5, 6, 7, 8] rfl (M1 := [(wk, 140, 1502, ca 1, fk), (wi, 141, 1502, ca 1, fi), (wz, 142, 1502, ca 1, fz), (jks, 145, 1502, ca 1, fs)]) [0, 1, 2, 3] rfl (I1 := []) [] rfl
  clear hh_9
  have hh_21 := hh_20.addI (jLs.ie hd_19)
  clear hh_20
  have hh_22 := hh_21.addIs hbE_9
  have hh_23 := hh_22.more (P1 := [(bo, 2, 1, .int pc), (bo, 2, 0, .ref pa)]) (jP.cons hg_12 (hbO_9 _ _ _ _ (by simp) hg_bo (hh_6.at 1 rfl)) (jP.cons hg_12 (hbO_9 _ _ _ _ (by simp) hg_bo (hh_6.at 2 rfl)) jP.nil))
  have hg_24 := hb_92 _ _ hg_pa
  have hd_25 := jOl.trL (hh_6.iv 0 rfl) hh_6.2.2.2.2.1 hbO_9 (by simp)
  have hh_26 := hh_23.addI (jOl.ie (dC := dC) (dI := dI) (G0 := G0) (k := 2) (rs := [bo, ou]) (H0 := s.heap) (F := [(2, 0), (2, 1)]) (C := RX0) (T := TX0) (N := 2) rfl (by decide) hh_23.2.2.2.2.1 (hd_25))
  clear hh_23
  try simp only at hr_10
  have hh_27 := hh_26.wk (zc1 := (n_pa - n_pa) / 16 + 11) (zs1 := 2 * (n_pa - n_pa) + 267) (by omega) (by omega)
  clear hh_26
  try clear hsz_9 htt_9 hrc_9 hrs_9
  try clear hb_94 hb_95
  refine lv_astore_n (lv' := [(1, .ref s.heap.size), (0, .ref r0)]) hx hb dX11_cancelRequest_32 rfl hl (by decide) rfl (fun ls hl => ?_)
  refine lv_iconst (v := 0) hx hb dX11_cancelRequest_33 (by decide) ?_
  refine lv_istore_n (lv' := [(2, .int 0), (1, .ref s.heap.size), (0, .ref r0)]) hx hb dX11_cancelRequest_34 rfl hl (by decide) rfl (fun ls hl => ?_)
  have L35 : ∀ (N : Nat) (v2_28 : Int32) (H_28 : Heap) (locs_28 : List Loc), jSt (dC, dI) B base G0 G_9 EX11_cancelRequest s.heap ((n_pa - n_pa) / 16 + 11) (2 * (n_pa - n_pa) + 267) [(bo, 2, 1, .int pc), (bo, 2, 0, .ref pa), (r0, 13, 4, .ref bo), (r0, 13, 3, .ref ou), (r0, 13, 2, .ref js), (js, 6, 7, .int pv), (js, 6, 8, .int pu), (js, 6, 0, .ref wk), (js, 6, 1, .ref wi), (js, 6, 2, .ref wz), (js, 6, 5, .ref jks)] [(wk, 140, 1502, ca 1, fk), (wi, 141, 1502, ca 1, fi), (wz, 142, 1502, ca 1, fz), (jks, 145, 1502, ca 1, fs)] [([(2, 0), (2, 1)], jOl (dC, dI) G0 2 [bo, ou] s.heap), (jFy, jYb dC dI G_9), (jFl, jLs dC dI ca G_9 3 none)] H_28 locs_28 → (0 ≤ v2_28.toInt ∧ v2_28.toInt ≤ 40) → (41 - v2_28.toInt : Int) < N → ∀ ls : Array Slot, lv_has ls 3 [(0, .ref r0), (1, .ref s.heap.size), (2, .int v2_28)] → W p l e R s m ([.ref r0] : List Value).toArray below meth c H_28 locs_28 ((n_pa - n_pa) / 16 + 11) (2 * (n_pa - n_pa) + 267) Q (F0 m 35 ls []) := by
    intro N
    induction N with
    | zero => intro v2_28 H_28 locs_28 hh_28  hi_28 hm; exact absurd hm (by omega)
    | succ N L35 =>
      intro v2_28 H_28 locs_28 hh_28  hi_28 hm_28 ls hl
      obtain ⟨hi_28_0, hi_28_1⟩ := hi_28
      try clear hr_4_2; try clear hr_7_2
      refine lv_iload_n hx hb dX11_cancelRequest_35 rfl (lv_at hl 2 rfl) ?_
      refine lv_aload_n hx hb dX11_cancelRequest_36 rfl (lv_at hl 0 rfl) ?_
      obtain ⟨v_29, hv_29, hh_30⟩ := hh_28.pin (C := RX11) (T := TX11) (N := 19) hB13 rfl (by decide) hg_11 (i := 8) (by decide) rfl
      clear hh_28
      obtain ⟨waiting_31, rfl, hg_waiting_31⟩ := hv_29
      refine j7_read hx hb hown hK (C := RX11) (T := TX11) (N := 19) rfl hly_13_8 hlk_65 (hh_30.at 0 rfl) dX11_cancelRequest_37 ?_
      obtain ⟨v_34, hv_34, hh_35⟩ := hh_30.pin (C := RJx4a65c) (T := TJx4a65c) (N := 3) hB1 rfl (by decide) hg_waiting_31 (i := 2) (by decide) rfl
      obtain ⟨size_36, rfl, hlosize_36, hhisize_36⟩ := hv_34
      have hsz_32 := hh_35.2.2.2.2.2.1
      have htt_32 := hh_35.2.2.2.2.2.2.1
      refine W.room (fun hrc_32 hrs_32 => ?_)
      refine va_callFi (A0 := jA base) (H0 := s.heap) (va_runF (hK.1 1 _ rfl).2 (As := []) (rest := [.int v2_28]) ⟨hx, hb, hml, hown, hts⟩ (uJx4a65c_size_8abf5 l dC dI ca base B hB hAp hB1 G_9 H_28 waiting_31 2 size_36) (va_cwF 0 hts (jgF (jWr_27 _ (List.mem_of_getElem? (i := 22) rfl)) (jWr_27 _ (List.mem_of_getElem? (i := 23) rfl)) (jWr_28 _ (List.mem_of_getElem? (i := 0) rfl)) (jWr_2 _ (List.mem_of_getElem? (i := 13) rfl)) (jWr_28 _ (List.mem_of_getElem? (i := 1) rfl))) rfl rfl rfl hK7.2.2.2.2.2.1.1 ⟨by decide, by decide, by decide +kernel⟩ ⟨by rw [← hR]; exact Nat.le_of_ble_eq_true rfl, by rw [← hR]; exact Nat.le_of_ble_eq_true rfl⟩) ⟨fun a U g mk q => by obtain ⟨q0, q1, q2, qK, q10, q11, q12⟩ := q; exact ⟨q0, q1, q2, jG.calling g mk a qK, q10, q11, q12⟩, hh_35.recv (C := RJx4a65c) (T := TJx4a65c) (N := 3) hB1 rfl (by decide) hg_waiting_31 hK, fun U hU hW => ⟨rfl, hU, hh_35.2.1, hG.step hW hU hh_35.1, hg_waiting_31, (hh_35.2.2.1.sub (L1 := [(waiting_31, 1, 2, .int size_36)]) [0] rfl), trivial⟩⟩ rfl rfl hl.1 rfl (lv_room (Nat.le_of_ble_eq_true rfl)) dX11_cancelRequest_40 ⟨by rw [hRc]; show _ + 0 ≤ _; omega, by rw [hRs]; show _ + 0 ≤ _; omega⟩) hh_35.1 (fun q _ h => h) (fun q h => h) (fun r_33 u_32 t_32 H_32 locs_32 ht_32 hvm_32 hr_33 hb_32 hz_32 hk_32 hS_32 => ?_)
      rw [ht_32] at hb_32
      obtain ⟨hb_321, hb_322, hb_323, hb_324, hb_325⟩ := hb_32
      have hh_32 : jSt (dC, dI) B base G0 G_9 EX11_cancelRequest s.heap ((n_pa - n_pa) / 16 + 11) (2 * (n_pa - n_pa) + 267) [(waiting_31, 1, 2, .int size_36), (r0, 13, 8, .ref waiting_31), (bo, 2, 1, .int pc), (bo, 2, 0, .ref pa), (r0, 13, 4, .ref bo), (r0, 13, 3, .ref ou), (r0, 13, 2, .ref js), (js, 6, 7, .int pv), (js, 6, 8, .int pu), (js, 6, 0, .ref wk), (js, 6, 1, .ref wi), (js, 6, 2, .ref wz), (js, 6, 5, .ref jks)] [(wk, 140, 1502, ca 1, fk), (wi, 141, 1502, ca 1, fi), (wz, 142, 1502, ca 1, fz), (jks, 145, 1502, ca 1, fs)] [([(2, 0), (2, 1)], jOl (dC, dI) G0 2 [bo, ou] s.heap), (jFy, jYb dC dI G_9), (jFl, jLs dC dI ca G_9 3 none)] H_32 locs_32 := ((hh_35.call hb_321 hb_322 hb_323 hb_324 hS_32 rfl (L1 := [(waiting_31, 1, 2, .int size_36), (r0, 13, 8, .ref waiting_31), (bo, 2, 1, .int pc), (bo, 2, 0, .ref pa), (r0, 13, 4, .ref bo), (r0, 13, 3, .ref ou), (r0, 13, 2, .ref js), (js, 6, 7, .int pv), (js, 6, 8, .int pu), (js, 6, 0, .ref wk), (js, 6, 1, .ref wi), (js, 6, 2, .ref wz), (js, 6, 5, .ref jks)]) [0, 1, 2, 3, 4, 5, 6, 7, 8, 9, 10, 11, 12] rfl rfl (M1 := [(wk, 140, 1502, ca 1, fk), (wi, 141, 1502, ca 1, fi), (wz, 142, 1502, ca 1, fz), (jks, 145, 1502, ca 1, fs)]) [0, 1, 2, 3] rfl rfl (I1 := [([(2, 0), (2, 1)], jOl (dC, dI) G0 2 [bo, ou] s.heap), (jFy, jYb dC dI G_9), (jFl, jLs dC dI ca G_9 3 none)]) [0, 1, 2] rfl rfl).more hb_325)
      clear hh_35 ht_32 hvm_32 hz_32 hk_32 hS_32 hb_321 hb_322 hb_323 hb_324 hb_325
      refine lv_icmp_ge (tgt := 95) hx hb dX11_cancelRequest_45 (by decide) (fun c_37 => ?_) (fun c_37 => ?_)
      · skip
        have c_37' : v2_28.toInt ≥ r_33.toInt := jb_ge (rfl) (rfl) c_37
        have hsz_38 := hh_32.2.2.2.2.2.1
        have htt_38 := hh_32.2.2.2.2.2.2.1
        refine W.room (fun hrc_38 hrs_38 => ?_)
        refine W.widen (k := LC - s.heap.size) (n := LS - jTot s.heap) (by omega) (by omega) ?_
        rw [hQ]
        exact W.vret hx hb hr (fun t ht hW => ⟨⟨(pc, pa, n_pa, G_9), rfl, by (try dsimp only); exact ⟨(by first | omega | rfl | assumption | fail), (by first | omega | rfl | assumption | fail), (by first | omega | rfl | assumption | fail), (by first | omega | rfl | assumption | fail), (by first | assumption | fail | omega)⟩, ⟨hh_32.ra (by first | omega | (simp only; omega)) (by first | omega | (simp only; omega)) (M1 := [(bo, 2, 1, .int pc), (bo, 2, 0, .ref pa)]) [2, 3] rfl ht, hg_24, hNn_9, by rw [ht]; exact hh_32.iv 0 rfl, by rw [ht]; exact hh_32.2.2.2.2.2.2.2.2.sub (L1 := [(jFy, jYb dC dI G_9), (jFl, jLs dC dI ca G_9 3 none)]) [1, 2] rfl⟩⟩, by rw [ht]; try exact hh_32.1.1, fun q h9 hq => by rw [ht]; try exact hh_32.1.2.1 q h9 hq⟩) hh_32.1.2.2 dX11_cancelRequest_95
      · skip
        have c_37' : v2_28.toInt < r_33.toInt := jb_ge_n (rfl) (rfl) c_37
        refine lv_aload_n hx hb dX11_cancelRequest_48 rfl (lv_at hl 0 rfl) ?_
        refine j7_read hx hb hown hK (C := RX11) (T := TX11) (N := 19) rfl hly_13_8 hlk_65 (hh_32.at 1 rfl) dX11_cancelRequest_49 ?_
        refine lv_iload_n hx hb dX11_cancelRequest_52 rfl (lv_at hl 2 rfl) ?_
        have hsz_39 := hh_32.2.2.2.2.2.1
        have htt_39 := hh_32.2.2.2.2.2.2.1
        refine W.room (fun hrc_39 hrs_39 => ?_)
        refine j_callFx (A0 := jA base) (H0 := s.heap) (va_runF (hK.1 1 _ rfl).2 (As := [.int v2_28]) (rest := []) ⟨hx, hb, hml, hown, hts⟩ (uJx4a65c_get_915e3L2 l dC dI ca base B hB hAp hB1 hB10 hB222 G_9 H_32 waiting_31 v2_28 size_36) (va_cwF 1 hts (jgF (jWr_28 _ (List.mem_of_getElem? (i := 3) rfl)) (jWr_28 _ (List.mem_of_getElem? (i := 4) rfl)) (jWr_28 _ (List.mem_of_getElem? (i := 5) rfl)) (jWr_2 _ (List.mem_of_getElem? (i := 13) rfl)) (jWr_28 _ (List.mem_of_getElem? (i := 6) rfl))) rfl rfl rfl hK7.2.2.2.2.2.1.2.1 ⟨by decide, by decide, by decide +kernel⟩ ⟨by rw [← hR]; exact Nat.le_of_ble_eq_true rfl, by rw [← hR]; exact Nat.le_of_ble_eq_true rfl⟩) ⟨fun a U g mk q => by obtain ⟨q0, q1, q2, qK, q10, q11, q12, q13, q14⟩ := q; exact ⟨q0, q1, q2, jG.calling g mk a qK, (jK7.calling g mk a q10), q11, q12, q13, q14⟩, hh_32.recv (C := RJx4a65c) (T := TJx4a65c) (N := 3) hB1 rfl (by decide) hg_waiting_31 hK, fun U hU hW => ⟨rfl, hU, hh_32.2.1, hG.step hW hU hh_32.1, (hK7.step hW hU hh_32.1), hg_waiting_31, (hh_32.2.2.1.sub (L1 := [(waiting_31, 1, 2, .int size_36)]) [0] rfl), (hh_32.2.2.2.2.2.2.2.2.sub (L1 := [(jFl, jLs dC dI ca G_9 3 none)]) [2] rfl), ⟨(by first | omega | rfl | assumption | fail), (by first | omega | rfl | assumption | fail)⟩⟩⟩ rfl rfl hl.1 rfl (lv_room (Nat.le_of_ble_eq_true rfl)) dX11_cancelRequest_53 ⟨by rw [hRc]; show _ + 0 ≤ _; omega, by rw [hRs]; show _ + 0 ≤ _; omega⟩) hh_32.1 (fun q _ h => h) (fun q h => h) (fun r_40 u_39 t_39 H_39 locs_39 ht_39 hvm_39 hr_40 hb_39 hz_39 hk_39 hS_39 => ?_)
        rw [ht_39] at hb_39
        obtain ⟨hb_39, hbE_39⟩ := hb_39
        obtain ⟨hb_391, hb_392, hb_393, hb_394, hb_395⟩ := hb_39
        have hh_39 : jSt (dC, dI) B base G0 G_9 EX11_cancelRequest s.heap ((n_pa - n_pa) / 16 + 11) (2 * (n_pa - n_pa) + 267) [(waiting_31, 1, 2, .int size_36), (r0, 13, 8, .ref waiting_31), (bo, 2, 1, .int pc), (bo, 2, 0, .ref pa), (r0, 13, 4, .ref bo), (r0, 13, 3, .ref ou), (r0, 13, 2, .ref js), (js, 6, 7, .int pv), (js, 6, 8, .int pu), (js, 6, 0, .ref wk), (js, 6, 1, .ref wi), (js, 6, 2, .ref wz), (js, 6, 5, .ref jks)] [(wk, 140, 1502, ca 1, fk), (wi, 141, 1502, ca 1, fi), (wz, 142, 1502, ca 1, fz), (jks, 145, 1502, ca 1, fs)] [(jFl, jLs dC dI ca G_9 3 none), ([(2, 0), (2, 1)], jOl (dC, dI) G0 2 [bo, ou] s.heap), (jFy, jYb dC dI G_9)] H_39 locs_39 := (((hh_32.call hb_391 hb_392 hb_393 hb_394 hS_39 rfl (L1 := [(waiting_31, 1, 2, .int size_36), (r0, 13, 8, .ref waiting_31), (bo, 2, 1, .int pc), (bo, 2, 0, .ref pa), (r0, 13, 4, .ref bo), (r0, 13, 3, .ref ou), (r0, 13, 2, .ref js), (js, 6, 7, .int pv), (js, 6, 8, .int pu), (js, 6, 0, .ref wk), (js, 6, 1, .ref wi), (js, 6, 2, .ref wz), (js, 6, 5, .ref jks)]) [0, 1, 2, 3, 4, 5, 6, 7, 8, 9, 10, 11, 12] rfl rfl (M1 := [(wk, 140, 1502, ca 1, fk), (wi, 141, 1502, ca 1, fi), (wz, 142, 1502, ca 1, fz), (jks, 145, 1502, ca 1, fs)]) [0, 1, 2, 3] rfl rfl (I1 := [([(2, 0), (2, 1)], jOl (dC, dI) G0 2 [bo, ou] s.heap), (jFy, jYb dC dI G_9)]) [0, 1] rfl rfl).more hb_395)).addIs hbE_39
        clear hh_32 ht_39 hvm_39 hz_39 hk_39 hS_39 hb_391 hb_392 hb_393 hb_394 hb_395
        clear  hbE_39
        obtain ⟨ret_41, rfl, hg_ret_41⟩ := hr_40
        refine va_castY hx hb hown (htw (.classLink RX11 115 "ProofServer$Request") (jWr_42 _ (List.mem_of_getElem? (i := 5) rfl))) hK7.2.2.1.2.1.2 (hh_39.recv (C := RX8) (T := TX8) (N := 5) hB10 rfl (by decide) hg_ret_41 hK) dX11_cancelRequest_58 ?_
        refine lv_aload_n hx hb dX11_cancelRequest_61 rfl (lv_at hl 1 rfl) ?_
        have hsz_42 := hh_39.2.2.2.2.2.1
        have htt_42 := hh_39.2.2.2.2.2.2.1
        refine W.room (fun hrc_42 hrs_42 => ?_)
        refine va_calli (A0 := jA base) (H0 := s.heap) (va_runV (As := [.ref s.heap.size]) (rest := []) ⟨hx, hb, hml, hown, hts⟩ (uX8_hasIdOf l dC dI ca base B hB hAp hB2 hB10 hB196 G_9 H_39 ret_41 s.heap.size) (cwV 1 hts (jgV (jWr_43 _ (List.mem_of_getElem? (i := 23) rfl)) (jWr_44 _ (List.mem_of_getElem? (i := 0) rfl)) (jWr_44 _ (List.mem_of_getElem? (i := 1) rfl)) (jWr_19 _ (List.mem_of_getElem? (i := 5) rfl)) (jWr_44 _ (List.mem_of_getElem? (i := 2) rfl))) rfl rfl rfl (by decide +kernel) ⟨by rw [← hR]; exact Nat.le_of_ble_eq_true rfl, by rw [← hR]; exact Nat.le_of_ble_eq_true rfl⟩) ⟨fun a U g mk q => by obtain ⟨q0, q1, q2, qK, q10, q11, q12, q13, q14⟩ := q; exact ⟨q0, q1, q2, jG.calling g mk a qK, q10, q11, q12, q13, q14⟩, hh_39.recv (C := RX8) (T := TX8) (N := 5) hB10 rfl (by decide) hg_ret_41 hK, fun U hU hW => ⟨rfl, hU, hh_39.2.1, hG.step hW hU hh_39.1, hgc_9, hg_ret_41, jP.nil, (hh_39.2.2.2.2.2.2.2.2.sub (L1 := [(jFy, jYb dC dI G_9)]) [2] rfl), trivial⟩⟩ rfl rfl hl.1 rfl (lv_room (Nat.le_of_ble_eq_true rfl)) dX11_cancelRequest_62 ⟨by rw [hRc]; show _ + 0 ≤ _; omega, by rw [hRs]; show _ + 0 ≤ _; omega⟩) hh_39.1 (fun q _ h => h) (fun q h => h) (fun r_43 u_42 t_42 H_42 locs_42 ht_42 hvm_42 hr_43 hb_42 hz_42 hk_42 hS_42 => ?_)
        rw [ht_42] at hb_42
        obtain ⟨hb_42, hbE_42⟩ := hb_42
        obtain ⟨hb_421, hb_422, hb_423, hb_424, hb_425⟩ := hb_42
        have hh_42 : jSt (dC, dI) B base G0 G_9 EX11_cancelRequest s.heap ((n_pa - n_pa) / 16 + 11) (2 * (n_pa - n_pa) + 267) [(waiting_31, 1, 2, .int size_36), (r0, 13, 8, .ref waiting_31), (bo, 2, 1, .int pc), (bo, 2, 0, .ref pa), (r0, 13, 4, .ref bo), (r0, 13, 3, .ref ou), (r0, 13, 2, .ref js), (js, 6, 7, .int pv), (js, 6, 8, .int pu), (js, 6, 0, .ref wk), (js, 6, 1, .ref wi), (js, 6, 2, .ref wz), (js, 6, 5, .ref jks)] [(wk, 140, 1502, ca 1, fk), (wi, 141, 1502, ca 1, fi), (wz, 142, 1502, ca 1, fz), (jks, 145, 1502, ca 1, fs)] [(jFy, jYb dC dI G_9), (jFl, jLs dC dI ca G_9 3 none), ([(2, 0), (2, 1)], jOl (dC, dI) G0 2 [bo, ou] s.heap)] H_42 locs_42 := (((hh_39.call hb_421 hb_422 hb_423 hb_424 hS_42 rfl (L1 := [(waiting_31, 1, 2, .int size_36), (r0, 13, 8, .ref waiting_31), (bo, 2, 1, .int pc), (bo, 2, 0, .ref pa), (r0, 13, 4, .ref bo), (r0, 13, 3, .ref ou), (r0, 13, 2, .ref js), (js, 6, 7, .int pv), (js, 6, 8, .int pu), (js, 6, 0, .ref wk), (js, 6, 1, .ref wi), (js, 6, 2, .ref wz), (js, 6, 5, .ref jks)]) [0, 1, 2, 3, 4, 5, 6, 7, 8, 9, 10, 11, 12] rfl rfl (M1 := [(wk, 140, 1502, ca 1, fk), (wi, 141, 1502, ca 1, fi), (wz, 142, 1502, ca 1, fz), (jks, 145, 1502, ca 1, fs)]) [0, 1, 2, 3] rfl rfl (I1 := [(jFl, jLs dC dI ca G_9 3 none), ([(2, 0), (2, 1)], jOl (dC, dI) G0 2 [bo, ou] s.heap)]) [0, 1] rfl rfl).more hb_425)).addIs hbE_42
        clear hh_39 ht_42 hvm_42 hz_42 hk_42 hS_42 hb_421 hb_422 hb_423 hb_424 hb_425
        clear  hbE_42
        obtain ⟨hr_43b, hr_43p⟩ := hr_43
        have hr_43' := jb_01 hr_43b
        refine lv_if_eq (tgt := 89) hx hb dX11_cancelRequest_65 (by decide) (fun c_44 => ?_) (fun c_44 => ?_)
        · skip
          have c_44' : r_43.toInt = 0 := jb_eq (rfl) ((by decide)) c_44
          obtain ⟨z_45, ez_45⟩ : ∃ y : Int32, y = v2_28 + 1 := ⟨_, rfl⟩
          refine lv_iinc (v := z_45) (lv' := [(2, .int z_45), (0, .ref r0), (1, .ref s.heap.size)]) hx hb dX11_cancelRequest_89 hl (k := 2) rfl (by rw [ez_45]; rfl) (by decide) rfl (fun ls hl => ?_)
          have hz_45 : z_45.toInt = v2_28.toInt + 1 := by rw [ez_45]; exact jb_iadd2 (rfl) (by decide) (by omega)
          refine lv_goto (tgt := 35) hx hb dX11_cancelRequest_92 (by decide) ?_
          refine W.tight (c2 := ((n_pa - n_pa) / 16 + 11)) (n2 := (2 * (n_pa - n_pa) + 267)) hh_42.2.2.2.2.2.1 hh_42.2.2.2.2.2.2.1 ?_
          exact L35 z_45 _ _ (hh_42.sub (L1 := [(bo, 2, 1, .int pc), (bo, 2, 0, .ref pa), (r0, 13, 4, .ref bo), (r0, 13, 3, .ref ou), (r0, 13, 2, .ref js), (js, 6, 7, .int pv), (js, 6, 8, .int pu), (js, 6, 0, .ref wk), (js, 6, 1, .ref wi), (js, 6, 2, .ref wz), (js, 6, 5, .ref jks)]) [2, 3, 4, 5, 6, 7, 8, 9, 10, 11, 12] rfl (M1 := [(wk, 140, 1502, ca 1, fk), (wi, 141, 1502, ca 1, fi), (wz, 142, 1502, ca 1, fz), (jks, 145, 1502, ca 1, fs)]) [0, 1, 2, 3] rfl (I1 := [([(2, 0), (2, 1)], jOl (dC, dI) G0 2 [bo, ou] s.heap), (jFy, jYb dC dI G_9), (jFl, jLs dC dI ca G_9 3 none)]) [2, 0, 1] rfl) (⟨(by first | omega | rfl | assumption | fail), (by first | omega | rfl | assumption | fail)⟩) (by omega) _ (lv_sub hl [1, 2, 0] rfl)
        · skip
          have c_44' : r_43.toInt ≠ 0 := jb_eq_n (rfl) ((by decide)) c_44
          refine lv_aload_n hx hb dX11_cancelRequest_68 rfl (lv_at hl 0 rfl) ?_
          refine lv_aload_n hx hb dX11_cancelRequest_69 rfl (lv_at hl 0 rfl) ?_
          refine j7_read hx hb hown hK (C := RX11) (T := TX11) (N := 19) rfl hly_13_8 hlk_65 (hh_42.at 1 rfl) dX11_cancelRequest_70 ?_
          refine lv_iload_n hx hb dX11_cancelRequest_73 rfl (lv_at hl 2 rfl) ?_
          have hsz_46 := hh_42.2.2.2.2.2.1
          have htt_46 := hh_42.2.2.2.2.2.2.1
          refine W.room (fun hrc_46 hrs_46 => ?_)
          refine j_callFx (A0 := jA base) (H0 := s.heap) (va_runF (hK.1 1 _ rfl).2 (As := [.int v2_28]) (rest := [.ref r0]) ⟨hx, hb, hml, hown, hts⟩ (uJx4a65c_remove_915e3L2 l dC dI ca base B hB hAp hB1 hB10 hB222 G_9 H_42 waiting_31 v2_28 size_36) (va_cwF 1 hts (jgF (jWr_42 _ (List.mem_of_getElem? (i := 7) rfl)) (jWr_42 _ (List.mem_of_getElem? (i := 8) rfl)) (jWr_42 _ (List.mem_of_getElem? (i := 9) rfl)) (jWr_2 _ (List.mem_of_getElem? (i := 13) rfl)) (jWr_42 _ (List.mem_of_getElem? (i := 10) rfl))) rfl rfl rfl hK7.2.2.2.2.2.1.2.2.2 ⟨by decide, by decide, by decide +kernel⟩ ⟨by rw [← hR]; exact Nat.le_of_ble_eq_true rfl, by rw [← hR]; exact Nat.le_of_ble_eq_true rfl⟩) ⟨fun a U g mk q => by obtain ⟨q0, q1, q2, qK, q10, q11, q12, q13, q14⟩ := q; exact ⟨q0, q1, q2, jG.calling g mk a qK, (jK7.calling g mk a q10), q11, q12, q13, q14⟩, hh_42.recv (C := RJx4a65c) (T := TJx4a65c) (N := 3) hB1 rfl (by decide) hg_waiting_31 hK, fun U hU hW => ⟨rfl, hU, hh_42.2.1, hG.step hW hU hh_42.1, (hK7.step hW hU hh_42.1), hg_waiting_31, (hh_42.2.2.1.sub (L1 := [(waiting_31, 1, 2, .int size_36)]) [0] rfl), (hh_42.2.2.2.2.2.2.2.2.sub (L1 := [(jFl, jLs dC dI ca G_9 3 none)]) [1] rfl), ⟨(by first | omega | rfl | assumption | fail), (by first | omega | rfl | assumption | fail)⟩⟩⟩ rfl rfl hl.1 rfl (lv_room (Nat.le_of_ble_eq_true rfl)) dX11_cancelRequest_74 ⟨by rw [hRc]; show _ + 0 ≤ _; omega, by rw [hRs]; show _ + 0 ≤ _; omega⟩) hh_42.1 (fun q _ h => h) (fun q h => h) (fun r_47 u_46 t_46 H_46 locs_46 ht_46 hvm_46 hr_47 hb_46 hz_46 hk_46 hS_46 => ?_)
          obtain ⟨qz_46, rfl⟩ : ∃ z, z = u_46 := ⟨_, rfl⟩
          rw [ht_46] at hb_46
          obtain ⟨hb_46, hbE_46⟩ := hb_46
          obtain ⟨hb_46, hbO_46⟩ := hb_46
          obtain ⟨hb_461, hb_462, hb_463, hb_464, hb_465⟩ := hb_46
          have hh_46 : jSt (dC, dI) B base G0 G_9 EX11_cancelRequest s.heap ((n_pa - n_pa) / 16 + 11) (2 * (n_pa - n_pa) + 267) [(waiting_31, 1, 2, .int qz_46), (r0, 13, 8, .ref waiting_31), (bo, 2, 1, .int pc), (bo, 2, 0, .ref pa), (r0, 13, 4, .ref bo), (r0, 13, 3, .ref ou), (r0, 13, 2, .ref js), (js, 6, 7, .int pv), (js, 6, 8, .int pu), (js, 6, 0, .ref wk), (js, 6, 1, .ref wi), (js, 6, 2, .ref wz), (js, 6, 5, .ref jks)] [(wk, 140, 1502, ca 1, fk), (wi, 141, 1502, ca 1, fi), (wz, 142, 1502, ca 1, fz), (jks, 145, 1502, ca 1, fs)] [(jFl, jLs dC dI ca G_9 3 none), (jFy, jYb dC dI G_9), ([(2, 0), (2, 1)], jOl (dC, dI) G0 2 [bo, ou] s.heap)] H_46 locs_46 := (((hh_42.call hb_461 hb_462 hb_463 hb_464 hS_46 rfl (L1 := [(r0, 13, 8, .ref waiting_31), (bo, 2, 1, .int pc), (bo, 2, 0, .ref pa), (r0, 13, 4, .ref bo), (r0, 13, 3, .ref ou), (r0, 13, 2, .ref js), (js, 6, 7, .int pv), (js, 6, 8, .int pu), (js, 6, 0, .ref wk), (js, 6, 1, .ref wi), (js, 6, 2, .ref wz), (js, 6, 5, .ref jks)]) [1, 2, 3, 4, 5, 6, 7, 8, 9, 10, 11, 12] rfl rfl (M1 := [(wk, 140, 1502, ca 1, fk), (wi, 141, 1502, ca 1, fi), (wz, 142, 1502, ca 1, fz), (jks, 145, 1502, ca 1, fs)]) [0, 1, 2, 3] rfl rfl (I1 := [(jFy, jYb dC dI G_9), ([(2, 0), (2, 1)], jOl (dC, dI) G0 2 [bo, ou] s.heap)]) [0, 2] rfl rfl).more hb_465)).addIs hbE_46
          clear hh_42 ht_46 hvm_46 hz_46 hk_46 hS_46 hb_461 hb_462 hb_463 hb_464 hb_465
          clear  hbE_46
          obtain ⟨hr_47, hr_47p⟩ := hr_47
          obtain ⟨ret_48, rfl, hg_ret_48⟩ := hr_47
          refine va_castY hx hb hown (htw (.classLink RX11 115 "ProofServer$Request") (jWr_42 _ (List.mem_of_getElem? (i := 5) rfl))) hK7.2.2.1.2.1.2 (hh_46.recv (C := RX8) (T := TX8) (N := 5) hB10 rfl (by decide) hg_ret_48 hK) dX11_cancelRequest_79 ?_
          refine lv_ldcw hx hb hown hcs_429 dX11_cancelRequest_82 ?_
          have hsz_49 := hh_46.2.2.2.2.2.1
          have htt_49 := hh_46.2.2.2.2.2.2.1
          refine W.room (fun hrc_49 hrs_49 => ?_)
          refine va_callv (A0 := jA base) (H0 := s.heap) (va_runV (As := [.ref ret_48, .int (-32800)]) (rest := []) ⟨hx, hb, hml, hown, hts⟩ (uX11_refuse l dC dI ca base B hB hAp hB2 hB4 hB10 hB13 hB196 G_9 H_46 r0 ret_48 (-32800) bo pc pa n_pa ou LC LS) (cwV 2 hts (jgV (jWr_26 _ (List.mem_of_getElem? (i := 3) rfl)) (jWr_26 _ (List.mem_of_getElem? (i := 4) rfl)) (jWr_26 _ (List.mem_of_getElem? (i := 5) rfl)) (jWr_1 _ (List.mem_of_getElem? (i := 2) rfl)) (jWr_26 _ (List.mem_of_getElem? (i := 6) rfl))) rfl rfl rfl (by decide +kernel) ⟨by rw [← hR]; exact Nat.le_of_ble_eq_true rfl, by rw [← hR]; exact Nat.le_of_ble_eq_true rfl⟩) ⟨fun a U g mk q => by obtain ⟨q0, q1, q2, qK, q10, q11, q12, q13, q14, q15, q16, q17⟩ := q; exact ⟨q0, q1, q2, jG.calling g mk a qK, q10, q11, q12, q13, q14, q15, q16, q17⟩, hh_46.recv (C := RX11) (T := TX11) (N := 19) hB13 rfl (by decide) hg_11 hK, fun U hU hW => ⟨rfl, hU, hh_46.2.1, hG.step hW hU hh_46.1, hg_ret_48, hg_11, hg_12, hg_24, hg_13, (hh_46.2.2.1.sub (L1 := [(r0, 13, 4, .ref bo), (bo, 2, 1, .int pc), (bo, 2, 0, .ref pa), (r0, 13, 3, .ref ou)]) [4, 2, 3, 5] rfl), (hh_46.2.2.2.2.2.2.2.2.sub (L1 := [(jFy, jYb dC dI G_9)]) [1] rfl), (by omega), (by omega), ⟨(by first | omega | rfl | assumption | fail), (by first | omega | rfl | assumption | fail), (by first | omega | rfl | assumption | fail), (by first | omega | rfl | assumption | fail), (by first | assumption | fail | omega)⟩⟩⟩ rfl rfl hl.1 rfl (lv_room (Nat.le_of_ble_eq_true rfl)) dX11_cancelRequest_85 ⟨by rw [hRc]; omega, by rw [hRs]; omega⟩) hh_46.1 (fun q _ h => h) (fun q h => h) (fun u_49 t_49 H_49 locs_49 ht_49 hvm_49 hr_50 hb_49 hz_49 hk_49 hS_49 => ?_)
          obtain ⟨qc_49, qa_49, m_qa_49, G_49⟩ := u_49
          rw [ht_49] at hb_49
          simp only at hb_49
          obtain ⟨⟨hb_491, hb_492, hb_493, hb_494, hb_495, hb_496⟩, hgq_49_0, hN_49, hbO_49, hbE_49⟩ := hb_49
          have hY_49 := hN_49
          have hN_49 : (jNk [0, 1, 3, 4, 5, 6, 7, 8, 9, 11, 12, 13, 14, 15, 16]) G_9 G_49 := hN_49.sub (by decide)
          have hh_49 : jSt (dC, dI) B base G0 G_49 EX11_cancelRequest s.heap (((n_pa - n_pa) / 16 + 11) + ((m_qa_49 - n_pa) / 16)) ((2 * (n_pa - n_pa) + 267) + (2 * (m_qa_49 - n_pa))) [(bo, 2, 1, .int qc_49), (bo, 2, 0, .ref qa_49), (waiting_31, 1, 2, .int qz_46), (r0, 13, 8, .ref waiting_31), (r0, 13, 4, .ref bo), (r0, 13, 3, .ref ou), (r0, 13, 2, .ref js), (js, 6, 7, .int pv), (js, 6, 8, .int pu), (js, 6, 0, .ref wk), (js, 6, 1, .ref wi), (js, 6, 2, .ref wz), (js, 6, 5, .ref jks)] [(wk, 140, 1502, ca 1, fk), (wi, 141, 1502, ca 1, fi), (wz, 142, 1502, ca 1, fz), (jks, 145, 1502, ca 1, fs)] [(jFl, jLs dC dI ca G_9 3 none)] H_49 locs_49 := (hh_46.callG hb_491 hb_492 hb_493 hb_494 hb_495 hS_49 rfl (L1 := [(waiting_31, 1, 2, .int qz_46), (r0, 13, 8, .ref waiting_31), (r0, 13, 4, .ref bo), (r0, 13, 3, .ref ou), (r0, 13, 2, .ref js), (js, 6, 7, .int pv), (js, 6, 8, .int pu), (js, 6, 0, .ref wk), (js, 6, 1, .ref wi), (js, 6, 2, .ref wz), (js, 6, 5, .ref jks)]) [0, 1, 4, 5, 6, 7, 8, 9, 10, 11, 12] rfl rfl (M1 := [(wk, 140, 1502, ca 1, fk), (wi, 141, 1502, ca 1, fi), (wz, 142, 1502, ca 1, fz), (jks, 145, 1502, ca 1, fs)]) [0, 1, 2, 3] rfl rfl (I1 := [(jFl, jLs dC dI ca G_9 3 none)]) [0] rfl rfl).more hb_496
          have hNn_49 : (jNk [0, 1, 3, 4, 5, 6, 7, 8, 9, 11, 12, 13, 14, 15, 16]) G0 G_49 := (hNn_9).tr hN_49
          have hg_51 := hb_492 _ _ hg_11
          have hg_52 := hb_492 _ _ hgc_9
          have hg_53 := hb_492 _ _ hg_waiting_31
          have hg_54 := hb_492 _ _ hg_12
          have hg_55 := hb_492 _ _ hg_13
          have hg_56 := hb_492 _ _ hg_14
          have hg_57 := hb_492 _ _ hg_15
          have hg_58 := hb_492 _ _ hg_16
          have hg_59 := hb_492 _ _ hg_17
          have hg_60 := hb_492 _ _ hg_18
          have hd_61 := jLs.grow (hh_49.iv 0 rfl) hb_492 hN_49 (by decide)
          have hh_62 := hh_49.sub (L1 := [(bo, 2, 1, .int qc_49), (bo, 2, 0, .ref qa_49), (waiting_31, 1, 2, .int qz_46), (r0, 13, 8, .ref waiting_31), (r0, 13, 4, .ref bo), (r0, 13, 3, .ref ou), (r0, 13, 2, .ref js), (js, 6, 7, .int pv), (js, 6, 8, .int pu), (js, 6, 0, .ref wk), (js, 6, 1, .ref wi), (js, 6, 2, .ref wz), (js, 6, 5, .ref jks)]) [0, 1, 2, 3, 4, 5, 6, 7, 8, 9, 10, 11, 12] rfl (M1 := [(wk, 140, 1502, ca 1, fk), (wi, 141, 1502, ca 1, fi), (wz, 142, 1502, ca 1, fz), (jks, 145, 1502, ca 1, fs)]) [0, 1, 2, 3] rfl (I1 := []) [] rfl
          clear hh_49
          have hh_63 := hh_62.addI (jLs.ie hd_61)
          clear hh_62
          have hh_64 := hh_63.addIs hbE_49
          have hd_65 := jOl.trL (hh_46.iv 2 rfl) hh_46.2.2.2.2.1 hbO_49 (by simp)
          have hh_66 := hh_64.addI (jOl.ie (dC := dC) (dI := dI) (G0 := G0) (k := 2) (rs := [bo, ou]) (H0 := s.heap) (F := [(2, 0), (2, 1)]) (C := RX0) (T := TX0) (N := 2) rfl (by decide) hh_64.2.2.2.2.1 (hd_65))
          clear hh_64
          try simp only at hr_50
          obtain ⟨hr_50_0, hr_50_1, hr_50_2, hr_50_3, hr_50_4⟩ := hr_50
          have hh_67 := hh_66.wk (zc1 := (m_qa_49 - n_pa) / 16 + 11) (zs1 := 2 * (m_qa_49 - n_pa) + 267) (by omega) (by omega)
          clear hh_66
          try clear hsz_49 htt_49 hrc_49 hrs_49
          try clear hb_494 hb_495
          have hsz_68 := hh_67.2.2.2.2.2.1
          have htt_68 := hh_67.2.2.2.2.2.2.1
          refine W.room (fun hrc_68 hrs_68 => ?_)
          refine W.widen (k := LC - s.heap.size) (n := LS - jTot s.heap) (by omega) (by omega) ?_
          rw [hQ]
          exact W.vret hx hb hr (fun t ht hW => ⟨⟨(qc_49, qa_49, m_qa_49, G_49), rfl, by (try dsimp only); exact ⟨(by first | omega | rfl | assumption | fail), (by first | omega | rfl | assumption | fail), (by first | omega | rfl | assumption | fail), (by first | omega | rfl | assumption | fail), (by first | assumption | fail | omega)⟩, ⟨hh_67.ra (by first | omega | (simp only; omega)) (by first | omega | (simp only; omega)) (M1 := [(bo, 2, 1, .int qc_49), (bo, 2, 0, .ref qa_49)]) [0, 1] rfl ht, hgq_49_0, hNn_49, by rw [ht]; exact hh_67.iv 0 rfl, by rw [ht]; exact hh_67.2.2.2.2.2.2.2.2.sub (L1 := [(jFy, jYb dC dI G_49), (jFl, jLs dC dI ca G_49 3 none)]) [1, 2] rfl⟩⟩, by rw [ht]; try exact hh_67.1.1, fun q h9 hq => by rw [ht]; try exact hh_67.1.2.1 q h9 hq⟩) hh_67.1.2.2 dX11_cancelRequest_88
  refine W.tight (c2 := ((n_pa - n_pa) / 16 + 11)) (n2 := (2 * (n_pa - n_pa) + 267)) hh_27.2.2.2.2.2.1 hh_27.2.2.2.2.2.2.1 ?_
  exact L35 (41 - (0 : Int32).toInt : Int).toNat.succ 0 _ _ hh_27 (⟨(by first | omega | rfl | assumption | fail), (by first | omega | rfl | assumption | fail)⟩) (by omega) _ (lv_sub hl [2, 1, 0] rfl)
