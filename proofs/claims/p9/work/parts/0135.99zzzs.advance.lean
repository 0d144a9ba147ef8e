section
theorem dX11_work_0 : decode cX11_work 0 = .ok (.iload_n 1, 1) := by decide +kernel
theorem dX11_work_1 : decode cX11_work 1 = .ok (.ifCond .lt 10, 3) := by decide +kernel
theorem dX11_work_4 : decode cX11_work 4 = .ok (.iload_n 1, 1) := by decide +kernel
theorem dX11_work_5 : decode cX11_work 5 = .ok (.sipush 10000, 3) := by decide +kernel
theorem dX11_work_8 : decode cX11_work 8 = .ok (.if_icmp .le 5, 3) := by decide +kernel
theorem dX11_work_11 : decode cX11_work 11 = .ok (.iconst (-1), 1) := by decide +kernel
theorem dX11_work_12 : decode cX11_work 12 = .ok (.ireturn, 1) := by decide +kernel
theorem dX11_work_13 : decode cX11_work 13 = .ok (.iconst 0, 1) := by decide +kernel
theorem dX11_work_14 : decode cX11_work 14 = .ok (.istore_n 2, 1) := by decide +kernel
theorem dX11_work_15 : decode cX11_work 15 = .ok (.iload_n 2, 1) := by decide +kernel
theorem dX11_work_16 : decode cX11_work 16 = .ok (.iload_n 1, 1) := by decide +kernel
theorem dX11_work_17 : decode cX11_work 17 = .ok (.if_icmp .ge 34, 3) := by decide +kernel
theorem dX11_work_20 : decode cX11_work 20 = .ok (.aload_n 0, 1) := by decide +kernel
theorem dX11_work_21 : decode cX11_work 21 = .ok (.invokevirtual 126, 3) := by decide +kernel
theorem dX11_work_24 : decode cX11_work 24 = .ok (.ifCond .eq 27, 3) := by decide +kernel
theorem dX11_work_27 : decode cX11_work 27 = .ok (.iconst 0, 1) := by decide +kernel
theorem dX11_work_28 : decode cX11_work 28 = .ok (.istore_n 3, 1) := by decide +kernel
theorem dX11_work_29 : decode cX11_work 29 = .ok (.iload_n 3, 1) := by decide +kernel
theorem dX11_work_30 : decode cX11_work 30 = .ok (.iconst 2, 1) := by decide +kernel
theorem dX11_work_31 : decode cX11_work 31 = .ok (.if_icmp .ge 14, 3) := by decide +kernel
theorem dX11_work_34 : decode cX11_work 34 = .ok (.aload_n 0, 1) := by decide +kernel
theorem dX11_work_35 : decode cX11_work 35 = .ok (.iload_n 3, 1) := by decide +kernel
theorem dX11_work_36 : decode cX11_work 36 = .ok (.invokevirtual 130, 3) := by decide +kernel
theorem dX11_work_39 : decode cX11_work 39 = .ok (.iinc 3 1, 3) := by decide +kernel
theorem dX11_work_42 : decode cX11_work 42 = .ok (.goto (-13), 3) := by decide +kernel
theorem dX11_work_45 : decode cX11_work 45 = .ok (.iinc 2 1, 3) := by decide +kernel
theorem dX11_work_48 : decode cX11_work 48 = .ok (.goto (-33), 3) := by decide +kernel
theorem dX11_work_51 : decode cX11_work 51 = .ok (.aload_n 0, 1) := by decide +kernel
theorem dX11_work_52 : decode cX11_work 52 = .ok (.dup, 1) := by decide +kernel
theorem dX11_work_53 : decode cX11_work 53 = .ok (.getfield 133, 3) := by decide +kernel
theorem dX11_work_56 : decode cX11_work 56 = .ok (.iload_n 2, 1) := by decide +kernel
theorem dX11_work_57 : decode cX11_work 57 = .ok (.iadd, 1) := by decide +kernel
theorem dX11_work_58 : decode cX11_work 58 = .ok (.putfield 133, 3) := by decide +kernel
theorem dX11_work_61 : decode cX11_work 61 = .ok (.iload_n 2, 1) := by decide +kernel
theorem dX11_work_62 : decode cX11_work 62 = .ok (.ireturn, 1) := by decide +kernel
theorem dX11_advance_0 : decode cX11_advance 0 = .ok (.aload_n 0, 1) := by decide +kernel
theorem dX11_advance_1 : decode cX11_advance 1 = .ok (.getfield 73, 3) := by decide +kernel
theorem dX11_advance_4 : decode cX11_advance 4 = .ok (.iload_n 1, 1) := by decide +kernel
theorem dX11_advance_5 : decode cX11_advance 5 = .ok (.aaload, 1) := by decide +kernel
theorem dX11_advance_6 : decode cX11_advance 6 = .ok (.ifnonnull 33, 3) := by decide +kernel
theorem dX11_advance_9 : decode cX11_advance 9 = .ok (.aload_n 0, 1) := by decide +kernel
theorem dX11_advance_10 : decode cX11_advance 10 = .ok (.getfield 73, 3) := by decide +kernel
theorem dX11_advance_13 : decode cX11_advance 13 = .ok (.iload_n 1, 1) := by decide +kernel
theorem dX11_advance_14 : decode cX11_advance 14 = .ok (.aload_n 0, 1) := by decide +kernel
theorem dX11_advance_15 : decode cX11_advance 15 = .ok (.invokevirtual 564, 3) := by decide +kernel
theorem dX11_advance_18 : decode cX11_advance 18 = .ok (.aastore, 1) := by decide +kernel
theorem dX11_advance_19 : decode cX11_advance 19 = .ok (.aload_n 0, 1) := by decide +kernel
theorem dX11_advance_20 : decode cX11_advance 20 = .ok (.getfield 73, 3) := by decide +kernel
theorem dX11_advance_23 : decode cX11_advance 23 = .ok (.iload_n 1, 1) := by decide +kernel
theorem dX11_advance_24 : decode cX11_advance 24 = .ok (.aaload, 1) := by decide +kernel
theorem dX11_advance_25 : decode cX11_advance 25 = .ok (.ifnonnull 4, 3) := by decide +kernel
theorem dX11_advance_28 : decode cX11_advance 28 = .ok (.return_, 1) := by decide +kernel
theorem dX11_advance_29 : decode cX11_advance 29 = .ok (.aload_n 0, 1) := by decide +kernel
theorem dX11_advance_30 : decode cX11_advance 30 = .ok (.aload_n 0, 1) := by decide +kernel
theorem dX11_advance_31 : decode cX11_advance 31 = .ok (.getfield 73, 3) := by decide +kernel
theorem dX11_advance_34 : decode cX11_advance 34 = .ok (.iload_n 1, 1) := by decide +kernel
theorem dX11_advance_35 : decode cX11_advance 35 = .ok (.aaload, 1) := by decide +kernel
theorem dX11_advance_36 : decode cX11_advance 36 = .ok (.invokevirtual 574, 3) := by decide +kernel
theorem dX11_advance_39 : decode cX11_advance 39 = .ok (.aload_n 0, 1) := by decide +kernel
theorem dX11_advance_40 : decode cX11_advance 40 = .ok (.getfield 73, 3) := by decide +kernel
theorem dX11_advance_43 : decode cX11_advance 43 = .ok (.iload_n 1, 1) := by decide +kernel
theorem dX11_advance_44 : decode cX11_advance 44 = .ok (.aaload, 1) := by decide +kernel
theorem dX11_advance_45 : decode cX11_advance 45 = .ok (.astore_n 2, 1) := by decide +kernel
theorem dX11_advance_46 : decode cX11_advance 46 = .ok (.aload_n 2, 1) := by decide +kernel
theorem dX11_advance_47 : decode cX11_advance 47 = .ok (.dup, 1) := by decide +kernel
theorem dX11_advance_48 : decode cX11_advance 48 = .ok (.getfield 577, 3) := by decide +kernel
theorem dX11_advance_51 : decode cX11_advance 51 = .ok (.iconst 1, 1) := by decide +kernel
theorem dX11_advance_52 : decode cX11_advance 52 = .ok (.isub, 1) := by decide +kernel
theorem dX11_advance_53 : decode cX11_advance 53 = .ok (.putfield 577, 3) := by decide +kernel
theorem dX11_advance_56 : decode cX11_advance 56 = .ok (.aload_n 2, 1) := by decide +kernel
theorem dX11_advance_57 : decode cX11_advance 57 = .ok (.getfield 577, 3) := by decide +kernel
theorem dX11_advance_60 : decode cX11_advance 60 = .ok (.ifCond .gt 10, 3) := by decide +kernel
theorem dX11_advance_63 : decode cX11_advance 63 = .ok (.aload_n 2, 1) := by decide +kernel
theorem dX11_advance_64 : decode cX11_advance 64 = .ok (.getfield 567, 3) := by decide +kernel
theorem dX11_advance_67 : decode cX11_advance 67 = .ok (.ifnonnull 4, 3) := by decide +kernel
theorem dX11_advance_70 : decode cX11_advance 70 = .ok (.return_, 1) := by decide +kernel
theorem dX11_advance_71 : decode cX11_advance 71 = .ok (.aload_n 2, 1) := by decide +kernel
theorem dX11_advance_72 : decode cX11_advance 72 = .ok (.getfield 580, 3) := by decide +kernel
theorem dX11_advance_75 : decode cX11_advance 75 = .ok (.astore_n 3, 1) := by decide +kernel
theorem dX11_advance_76 : decode cX11_advance 76 = .ok (.aload_n 3, 1) := by decide +kernel
theorem dX11_advance_77 : decode cX11_advance 77 = .ok (.ifnull 16, 3) := by decide +kernel
theorem dX11_advance_80 : decode cX11_advance 80 = .ok (.aload_n 0, 1) := by decide +kernel
theorem dX11_advance_81 : decode cX11_advance 81 = .ok (.dup, 1) := by decide +kernel
theorem dX11_advance_82 : decode cX11_advance 82 = .ok (.getfield 148, 3) := by decide +kernel
theorem dX11_advance_85 : decode cX11_advance 85 = .ok (.iconst 1, 1) := by decide +kernel
theorem dX11_advance_86 : decode cX11_advance 86 = .ok (.iadd, 1) := by decide +kernel
theorem dX11_advance_87 : decode cX11_advance 87 = .ok (.putfield 148, 3) := by decide +kernel
theorem dX11_advance_90 : decode cX11_advance 90 = .ok (.goto 34, 3) := by decide +kernel
theorem dX11_advance_93 : decode cX11_advance 93 = .ok (.aload_n 0, 1) := by decide +kernel
theorem dX11_advance_94 : decode cX11_advance 94 = .ok (.getfield 41, 3) := by decide +kernel
theorem dX11_advance_97 : decode cX11_advance 97 = .ok (.aload_n 2, 1) := by decide +kernel
theorem dX11_advance_98 : decode cX11_advance 98 = .ok (.aload_n 2, 1) := by decide +kernel
theorem dX11_advance_99 : decode cX11_advance 99 = .ok (.getfield 171, 3) := by decide +kernel
theorem dX11_advance_102 : decode cX11_advance 102 = .ok (.aload_n 0, 1) := by decide +kernel
theorem dX11_advance_103 : decode cX11_advance 103 = .ok (.getfield 41, 3) := by decide +kernel
theorem dX11_advance_106 : decode cX11_advance 106 = .ok (.getfield 217, 3) := by decide +kernel
theorem dX11_advance_109 : decode cX11_advance 109 = .ok (.invokevirtual 221, 3) := by decide +kernel
theorem dX11_advance_112 : decode cX11_advance 112 = .ok (.aload_n 2, 1) := by decide +kernel
theorem dX11_advance_113 : decode cX11_advance 113 = .ok (.getfield 567, 3) := by decide +kernel
theorem dX11_advance_116 : decode cX11_advance 116 = .ok (.aload_n 2, 1) := by decide +kernel
theorem dX11_advance_117 : decode cX11_advance 117 = .ok (.invokevirtual 583, 3) := by decide +kernel
theorem dX11_advance_120 : decode cX11_advance 120 = .ok (.invokevirtual 228, 3) := by decide +kernel
theorem dX11_advance_123 : decode cX11_advance 123 = .ok (.astore_n 3, 1) := by decide +kernel
theorem dX11_advance_124 : decode cX11_advance 124 = .ok (.aload_n 2, 1) := by decide +kernel
theorem dX11_advance_125 : decode cX11_advance 125 = .ok (.aload_n 3, 1) := by decide +kernel
theorem dX11_advance_126 : decode cX11_advance 126 = .ok (.invokevirtual 586, 3) := by decide +kernel
theorem dX11_advance_129 : decode cX11_advance 129 = .ok (.aload_n 0, 1) := by decide +kernel
theorem dX11_advance_130 : decode cX11_advance 130 = .ok (.aload_n 3, 1) := by decide +kernel
theorem dX11_advance_131 : decode cX11_advance 131 = .ok (.invokevirtual 590, 3) := by decide +kernel
theorem dX11_advance_134 : decode cX11_advance 134 = .ok (.aload_n 0, 1) := by decide +kernel
theorem dX11_advance_135 : decode cX11_advance 135 = .ok (.aload_n 2, 1) := by decide +kernel
theorem dX11_advance_136 : decode cX11_advance 136 = .ok (.invokevirtual 403, 3) := by decide +kernel
theorem dX11_advance_139 : decode cX11_advance 139 = .ok (.aload_n 2, 1) := by decide +kernel
theorem dX11_advance_140 : decode cX11_advance 140 = .ok (.getfield 171, 3) := by decide +kernel
theorem dX11_advance_143 : decode cX11_advance 143 = .ok (.aload_n 2, 1) := by decide +kernel
theorem dX11_advance_144 : decode cX11_advance 144 = .ok (.getfield 168, 3) := by decide +kernel
theorem dX11_advance_147 : decode cX11_advance 147 = .ok (.if_icmp .ne 9, 3) := by decide +kernel
theorem dX11_advance_150 : decode cX11_advance 150 = .ok (.aload_n 0, 1) := by decide +kernel
theorem dX11_advance_151 : decode cX11_advance 151 = .ok (.aload_n 2, 1) := by decide +kernel
theorem dX11_advance_152 : decode cX11_advance 152 = .ok (.iconst 1, 1) := by decide +kernel
theorem dX11_advance_153 : decode cX11_advance 153 = .ok (.invokevirtual 378, 3) := by decide +kernel
theorem dX11_advance_156 : decode cX11_advance 156 = .ok (.aload_n 0, 1) := by decide +kernel
theorem dX11_advance_157 : decode cX11_advance 157 = .ok (.invokevirtual 593, 3) := by decide +kernel
theorem dX11_advance_160 : decode cX11_advance 160 = .ok (.return_, 1) := by decide +kernel
def EX11_advance : List (Nat × Nat) := [(1, 0), (1, 1), (1, 2), (2, 0), (2, 1), (3, 10), (3, 11), (3, 12), (3, 13), (3, 14), (3, 15), (3, 16), (7, 5), (7, 10), (8, 3), (9, 2), (11, 2), (11, 3), (11, 4), (11, 5), (11, 6), (11, 7), (11, 8), (12, 3), (12, 4), (12, 5), (12, 7), (12, 8), (12, 10), (13, 13), (13, 14), (101, 0), (102, 0), (132, 0), (133, 0), (196, 0), (210, 0), (211, 0), (212, 0), (221, 0), (222, 0), (223, 0), (280, 0), (286, 0), (287, 0), (288, 0), (290, 0), (291, 0), (292, 0), (293, 0)]
def EX11_work : List (Nat × Nat) := [(1, 0), (1, 1), (1, 2), (2, 0), (2, 1), (3, 10), (3, 11), (3, 12), (3, 13), (3, 14), (3, 15), (3, 16), (7, 5), (7, 10), (8, 3), (9, 2), (11, 2), (11, 3), (11, 4), (11, 5), (11, 6), (11, 7), (11, 8), (12, 3), (12, 4), (12, 5), (12, 7), (12, 8), (12, 10), (13, 12), (13, 13), (13, 14), (101, 0), (102, 0), (132, 0), (133, 0), (196, 0), (210, 0), (211, 0), (212, 0), (221, 0), (222, 0), (223, 0), (280, 0), (286, 0), (287, 0), (288, 0), (290, 0), (291, 0), (292, 0), (293, 0)]
set_option maxHeartbeats 4000000 in
set_option maxRecDepth 20000 in
theorem uX11_advance (l : Launch) (dC : Nat → ClassId) (dI : Nat → Nat → Nat) (ca : Nat → ClassId) (base : Nat) (B : jF) (hB : jBok B) (hAp : jAp (dC, dI)) (hB1 : ∀ n G a H, B 1 n G a H ↔ jOb (dC, dI) 1 3 (F1 n G) a H) (hB2 : ∀ n G a H, B 2 n G a H ↔ jOb (dC, dI) 2 2 (F2 n G) a H) (hB3 : ∀ n G a H, B 3 n G a H ↔ jOb (dC, dI) 3 17 (F3 n G) a H) (hB4 : ∀ n G a H, B 4 n G a H ↔ jOb (dC, dI) 4 12 (F4 n G) a H) (hB5 : ∀ n G a H, B 5 n G a H ↔ jOb (dC, dI) 5 4 (F5 n G) a H) (hB7 : ∀ n G a H, B 7 n G a H ↔ jOb (dC, dI) 7 11 (F7 n G) a H) (hB8 : ∀ n G a H, B 8 n G a H ↔ jOb (dC, dI) 8 4 (F8 n G) a H) (hB9 : ∀ n G a H, B 9 n G a H ↔ jOb (dC, dI) 9 5 (F9b n G) a H) (hB10 : ∀ n G a H, B 10 n G a H ↔ jOb (dC, dI) 10 5 (F10 n G) a H) (hB11 : ∀ n G a H, B 11 n G a H ↔ jOb (dC, dI) 11 9 (F11 n G) a H) (hB12 : ∀ n G a H, B 12 n G a H ↔ jOb (dC, dI) 12 11 (F12b n G) a H) (hB13 : ∀ n G a H, B 13 n G a H ↔ jOb (dC, dI) 13 19 (F13 n G) a H) (hB101 : ∀ n G a H, B 101 n G a H ↔ jAr (dC, dI) (ca 1) (fun j z => True) n a H) (hB102 : ∀ n G a H, B 102 n G a H ↔ jAl (dC, dI) (ca 2) n a H) (hB132 : ∀ n G a H, B 132 n G a H ↔ jAr (dC, dI) (ca 1) (fun j z => 0 ≤ z.toInt ∧ z.toInt ≤ 10) n a H) (hB133 : ∀ n G a H, B 133 n G a H ↔ jAr (dC, dI) (ca 1) (fun j z => 0 ≤ z.toInt ∧ z.toInt ≤ 8192) n a H) (hB171 : ∀ n G a H, B 171 n G a H ↔ jAr (dC, dI) (ca 1) (fun j z => 0 ≤ z.toInt ∧ z.toInt ≤ 1500) n a H) (hB172 : ∀ n G a H, B 172 n G a H ↔ jAr (dC, dI) (ca 1) (fun j z => 0 ≤ z.toInt ∧ z.toInt ≤ 1500) n a H) (hB173 : ∀ n G a H, B 173 n G a H ↔ jAr (dC, dI) (ca 1) (fun j z => True) n a H) (hB174 : ∀ n G a H, B 174 n G a H ↔ jAr (dC, dI) (ca 1) (fun j z => True) n a H) (hB196 : ∀ n G a H, B 196 n G a H ↔ jAr (dC, dI) (ca 0) (fun j z => jBf j z) n a H) (hB210 : ∀ n G a H, B 210 n G a H ↔ jAq (dC, dI) (ca 6) (jQn 11 0) n G a H) (hB211 : ∀ n G a H, B 211 n G a H ↔ jAq (dC, dI) (ca 7) (jQh) n G a H) (hB212 : ∀ n G a H, B 212 n G a H ↔ jAq (dC, dI) (ca 5) (jQn 3 0) n G a H) (hB214 : ∀ n G a H, B 214 n G a H ↔ jAq (dC, dI) (ca 7) (jQg) n G a H) (hB221 : ∀ n G a H, B 221 n G a H ↔ jAq (dC, dI) (ca 9) (jQn 3 0) n G a H) (hB222 : ∀ n G a H, B 222 n G a H ↔ jAq (dC, dI) (ca 9) (jQn 10 0) n G a H) (hB223 : ∀ n G a H, B 223 n G a H ↔ jAq (dC, dI) (ca 9) (jQn 11 0) n G a H) (hB280 : ∀ n G a H, B 280 n G a H ↔ jAr (dC, dI) (ca 1) (fun j z => -1 ≤ z.toInt) n a H) (hB286 : ∀ n G a H, B 286 n G a H ↔ jAr (dC, dI) (ca 1) (fun j z => (0 ≤ z.toInt ∨ z.toInt = -3)) n a H) (hB287 : ∀ n G a H, B 287 n G a H ↔ jAr (dC, dI) (ca 1) (fun j z => 0 ≤ z.toInt ∧ z.toInt ≤ 65535) n a H) (hB288 : ∀ n G a H, B 288 n G a H ↔ jAr (dC, dI) (ca 1) (fun j z => 0 ≤ z.toInt ∧ z.toInt ≤ 160) n a H) (hB290 : ∀ n G a H, B 290 n G a H ↔ jAr (dC, dI) (ca 1) (fun j z => 0 ≤ z.toInt ∧ z.toInt ≤ 3000) n a H) (hB291 : ∀ n G a H, B 291 n G a H ↔ jAr (dC, dI) (ca 1) (fun j z => 0 ≤ z.toInt ∧ z.toInt ≤ 3000) n a H) (hB292 : ∀ n G a H, B 292 n G a H ↔ jAr (dC, dI) (ca 1) (fun j z => 0 ≤ z.toInt ∧ z.toInt ≤ 8191) n a H) (hB293 : ∀ n G a H, B 293 n G a H ↔ jAr (dC, dI) (ca 1) (fun j z => -1 ≤ z.toInt ∧ z.toInt ≤ 8191) n a H) (hB313 : ∀ n G a H, B 313 n G a H ↔ jAq (dC, dI) (ca 8) (jQk 280 80) n G a H) (hB315 : ∀ n G a H, B 315 n G a H ↔ jAqZ (dC, dI) (ca 8) n a H) (G0 : jT) (H0 : Heap) (r0 : Nat) (a1 : Int32) (bo : Nat) (pc : Int32) (pa : Nat) (n_pa : Nat) (ou : Nat) (ph : Nat) (wl : jWl9) (LC LS : Nat) : Met l yX11_advance (jw yX11_advance cX11_advance 4 none) ({ frames := 71, cells := LC - H0.size, slots := LS - jTot H0, locals := 2283 }) (va_Pc [.ref r0, .int a1] (fun U => U.heap = H0 ∧ jX B base G0 [] H0 ∧ jG dC dI ca base U ∧ jK2 dC dI ca U ∧ jK5 dC dI ca U ∧ jK6 U ∧ jK7 dC dI ca base U ∧ jK8 U ∧ G0 r0 = some (13, 0) ∧ G0 bo = some (2, 0) ∧ G0 pa = some (196, n_pa) ∧ G0 ou = some (2, 20000) ∧ jP (dC, dI) G0 H0 [(r0, 13, 4, .ref bo), (bo, 2, 1, .int pc), (bo, 2, 0, .ref pa), (r0, 13, 3, .ref ou)] ∧ jIs (dC, dI) G0 H0 [(jFy, jYb dC dI G0), (jFs11, jSef dC dI G0), (jFl, jLs dC dI ca G0 3 none wl), (jFdo, jDcc dC dI ca G0 none ph)] ∧ H0.size + (1048576 - n_pa) / 16 + 40 + ph / 16 ≤ LC ∧ jTot H0 + 2 * (1048576 - n_pa) + 100 + ph ≤ LS ∧ 0 ≤ pc.toInt ∧ pc.toInt ≤ n_pa ∧ 16 ≤ n_pa ∧ n_pa ≤ 1048576 ∧ jPw n_pa ∧ 0 ≤ a1.toInt ∧ a1.toInt ≤ 1)) (va_Qv (S := Int32 × Nat × Nat × Nat × jT) (fun u => 0 ≤ u.1.toInt ∧ u.1.toInt ≤ u.2.2.1 ∧ n_pa ≤ u.2.2.1 ∧ u.2.2.1 ≤ 1048576 ∧ jPw u.2.2.1 ∧ u.2.2.2.1 ≤ ph) (fun u t => jRa (dC, dI) B base G0 u.2.2.2.2 EX11_advance H0 ((u.2.2.1 - n_pa) / 16 + (ph - u.2.2.2.1) / 16) (2 * (u.2.2.1 - n_pa) + (ph - u.2.2.2.1)) [(bo, 2, 1, .int u.1), (bo, 2, 0, .ref u.2.1)] t.heap ∧ u.2.2.2.2 u.2.1 = some (196, u.2.2.1) ∧ (jNk [0, 1, 2, 3, 4, 6, 7, 8, 9, 10, 12, 13, 14, 15, 16]) G0 u.2.2.2.2 ∧ jOl (dC, dI) G0 2 [bo, ou] H0 t.heap ∧ jIs (dC, dI) u.2.2.2.2 t.heap [(jFy, jYb dC dI u.2.2.2.2), (jFs11, jSef dC dI u.2.2.2.2), (jFl, jLs dC dI ca u.2.2.2.2 3 none wl), (jFdo, jDcc dC dI ca u.2.2.2.2 none (u.2.2.2.1))]) (jA base)) (LC - H0.size) (LS - jTot H0) (jA base) := by
  refine Met.ofW (cc := cX11_advance) (maxL := 4) (ret := none) (by decide) rfl ?_
  intro p e s m args below meth c s₁ Bd hml hv
  obtain ⟨rfl, hH0, hX, hG, hK2, hK5, hK6, hK7, hK8, hg_r0, hg_bo, hg_pa, hg_ou, hP0, hI0, hLC0, hLS0, hp0, hp1, hp2, hp3, hp4, hp5, hp6⟩ := hv
  have hK := hG.1
  have hx := Bd.exec
  have hb := Bd.bytes
  have hr := Bd.returns
  have hts := atoms_spec (ws := (jw yX11_advance cX11_advance 4 none)) Bd.pre
  have htw : ∀ w ∈ jWl, w.before _ s = true := fun w h => hts w (List.mem_cons_of_mem _ h)
  have hown : s.vm.findClass RX11 = some m.cls := findClass_of_methodNamed Bd.named
  have hlocks := Bd.notSynchronized
  obtain ⟨Q, hQ⟩ : ∃ Q, Q = MQ below (va_Qv (S := Int32 × Nat × Nat × Nat × jT) (fun u => 0 ≤ u.1.toInt ∧ u.1.toInt ≤ u.2.2.1 ∧ n_pa ≤ u.2.2.1 ∧ u.2.2.1 ≤ 1048576 ∧ jPw u.2.2.1 ∧ u.2.2.2.1 ≤ ph) (fun u t => jRa (dC, dI) B base G0 u.2.2.2.2 EX11_advance H0 ((u.2.2.1 - n_pa) / 16 + (ph - u.2.2.2.1) / 16) (2 * (u.2.2.1 - n_pa) + (ph - u.2.2.2.1)) [(bo, 2, 1, .int u.1), (bo, 2, 0, .ref u.2.1)] t.heap ∧ u.2.2.2.2 u.2.1 = some (196, u.2.2.1) ∧ (jNk [0, 1, 2, 3, 4, 6, 7, 8, 9, 10, 12, 13, 14, 15, 16]) G0 u.2.2.2.2 ∧ jOl (dC, dI) G0 2 [bo, ou] H0 t.heap ∧ jIs (dC, dI) u.2.2.2.2 t.heap [(jFy, jYb dC dI u.2.2.2.2), (jFs11, jSef dC dI u.2.2.2.2), (jFl, jLs dC dI ca u.2.2.2.2 3 none wl), (jFdo, jDcc dC dI ca u.2.2.2.2 none (u.2.2.2.1))]) (jA base)) ([.ref r0, .int a1] : List Value).toArray s (LC - H0.size) (LS - jTot H0) (jA base) := ⟨_, rfl⟩
  rw [← hQ]
  have hl := lv_entry ([.ref r0, .int a1]) (n := 4) (Nat.le_of_ble_eq_true rfl)
  rw [lg_entry_eq]
  generalize (lg_sl ([.ref r0, .int a1]) ++ List.replicate (4 - (lg_sl ([.ref r0, .int a1])).length) Slot.unset).toArray = ls at hl ⊢
  have hl : lv_has ls 4 [(0, .ref r0), (1, .int a1)] := hl
  generalize hR : (headSpec (jw yX11_advance cX11_advance 4 none) ({ frames := 71, cells := LC - H0.size, slots := LS - jTot H0, locals := 2283 })).room = R
  subst hH0
  have hh : jSt (dC, dI) B base G0 G0 EX11_advance s.heap 0 0 [(r0, 13, 4, .ref bo), (bo, 2, 1, .int pc), (bo, 2, 0, .ref pa), (r0, 13, 3, .ref ou)] [] [(jFy, jYb dC dI G0), (jFs11, jSef dC dI G0), (jFl, jLs dC dI ca G0 3 none wl), (jFdo, jDcc dC dI ca G0 none ph)] s.heap [] := jSt.start hX hP0 jMc.nil hI0
  clear hX hP0
  have hk0 : (0 : Int32).toInt = 0 := by decide
  have hk1 : (1 : Int32).toInt = 1 := by decide
  have hly_3_4 := htw (u_lay RX1 TX1 4) (jWc_wsX10 _ (u_in_lay (by decide)))
  have hly_3_10 := htw (u_lay RX1 TX1 10) (jWc_wsX10 _ (u_in_lay (by decide)))
  have hly_3_11 := htw (u_lay RX1 TX1 11) (jWc_wsX10 _ (u_in_lay (by decide)))
  have hly_3_12 := htw (u_lay RX1 TX1 12) (jWc_wsX10 _ (u_in_lay (by decide)))
  have hly_3_13 := htw (u_lay RX1 TX1 13) (jWc_wsX10 _ (u_in_lay (by decide)))
  have hly_7_2 := htw (u_lay RX5 TX5 2) (jWc_wsX50 _ (u_in_lay (by decide)))
  have hly_13_5 := htw (u_lay RX11 TX11 5) (jWc_wsX110 _ (u_in_lay (by decide)))
  have hly_13_10 := htw (u_lay RX11 TX11 10) (jWc_wsX110 _ (u_in_lay (by decide)))
  have hly_13_13 := htw (u_lay RX11 TX11 13) (jWc_wsX110 _ (u_in_lay (by decide)))
  have hlk_73 := (htw (.fieldLink RX11 73 "ProofServer" "hands" "[LProofServer$Document;") (jWr_2 _ (List.mem_of_getElem? (i := 18) rfl)))
  have hlk_577 := (htw (.fieldLink RX11 577 "ProofServer$Document" "left" "I") (jWr_43 _ (List.mem_of_getElem? (i := 9) rfl)))
  have hlk_567 := (htw (.fieldLink RX11 567 "ProofServer$Document" "checking" "[I") (jWr_43 _ (List.mem_of_getElem? (i := 7) rfl)))
  have hlk_580 := (htw (.fieldLink RX11 580 "ProofServer$Document" "found" "LProofServer$State;") (jWr_43 _ (List.mem_of_getElem? (i := 8) rfl)))
  have hlk_148 := (htw (.fieldLink RX11 148 "ProofServer" "reused" "I") (jWr_77 _ (List.mem_of_getElem? (i := 7) rfl)))
  have hlk_41 := (htw (.fieldLink RX11 41 "ProofServer" "kernel" "LProofServer$Kernel;") (jWr_2 _ (List.mem_of_getElem? (i := 5) rfl)))
  have hlk_171 := (htw (.fieldLink RX11 171 "ProofServer$Document" "checked" "I") (jWr_35 _ (List.mem_of_getElem? (i := 17) rfl)))
  have hlk_217 := (htw (.fieldLink RX11 217 "ProofServer$Kernel" "start" "LProofServer$State;") (jWr_30 _ (List.mem_of_getElem? (i := 6) rfl)))
  have hlk_168 := (htw (.fieldLink RX11 168 "ProofServer$Document" "sentences" "I") (jWr_35 _ (List.mem_of_getElem? (i := 4) rfl)))
  have hrg_a1 := jb_rng a1
  have hbs : base ≤ s.heap.size := Nat.le_of_lt (Nat.lt_of_le_of_lt (hh.ab hg_r0).1 (hh.ab hg_r0).2)
  have hRc : R.cells = LC - s.heap.size := by rw [← hR]; rfl
  have hRs : R.slots = LS - jTot s.heap := by rw [← hR]; rfl
  have hh_1 := hh.addI (jOl.ie (dC := dC) (dI := dI) (G0 := G0) (k := 2) (rs := [bo, ou]) (H0 := s.heap) (F := [(2, 0), (2, 1)]) (C := RX0) (T := TX0) (N := 2) rfl (by decide) hh.2.2.2.2.1 (jOl.rf))
  clear hh
  obtain ⟨v_2, hv_2, hh_3⟩ := hh_1.pin (C := RX11) (T := TX11) (N := 19) hB13 rfl (by decide) hg_r0 (i := 10) (by decide) rfl
  obtain ⟨hands_4, rfl, hg_hands_4⟩ := hv_2
  obtain ⟨fq_5, hfq_5a, hfq_5p⟩ := hh_3.aq hB212 (by decide) hg_hands_4
  have hh_6 := hh_3.addI (jQc.ie hfq_5a hg_hands_4 (by decide) (by decide))
  clear hh_3
  refine lv_aload_n hx hb dX11_advance_0 rfl (lv_at hl 0 rfl) ?_
  refine j7_read hx hb hown hK (C := RX11) (T := TX11) (N := 19) rfl hly_13_10 hlk_73 (hh_6.at 0 rfl) dX11_advance_1 ?_
  refine lv_iload_n hx hb dX11_advance_4 rfl (lv_at hl 1 rfl) ?_
  refine j7_qaldI hx hb hK2 hh_6 hB212 1 rfl (by decide) hg_hands_4 (x := a1.toInt) (rfl) (by omega) (hh_6.iv 0 rfl) dX11_advance_5 (fun o_7 ho_7 heo_7 => ?_)
  rcases ho_7 with rfl | ⟨el_8, rfl, hg_el_8⟩
  · simp only [va_rf]
    refine lv_ifnonnullN hx hb dX11_advance_6 ?_
    refine lv_aload_n hx hb dX11_advance_9 rfl (lv_at hl 0 rfl) ?_
    refine j7_read hx hb hown hK (C := RX11) (T := TX11) (N := 19) rfl hly_13_10 hlk_73 (hh_6.at 0 rfl) dX11_advance_10 ?_
    refine lv_iload_n hx hb dX11_advance_13 rfl (lv_at hl 1 rfl) ?_
    obtain ⟨sn_9, ck_9, vn_9, hx_9⟩ := jDcc.ex (hh_6.iv 5 rfl)
    have hh_10 := hh_6.sub (L1 := [(r0, 13, 10, .ref hands_4), (r0, 13, 4, .ref bo), (bo, 2, 1, .int pc), (bo, 2, 0, .ref pa), (r0, 13, 3, .ref ou)]) [0, 1, 2, 3, 4] rfl (M1 := []) [] rfl (I1 := [([(212, 0)], jQc dC dI (ca 5) hands_4 2 fq_5), ([(2, 0), (2, 1)], jOl (dC, dI) G0 2 [bo, ou] s.heap), (jFy, jYb dC dI G0), (jFs11, jSef dC dI G0), (jFl, jLs dC dI ca G0 3 none wl)]) [0, 1, 2, 3, 4] rfl
    clear hh_6
    have hh_11 := hh_10.addI (jDcx.ie hx_9)
    clear hh_10
    refine lv_aload_n hx hb dX11_advance_14 rfl (lv_at hl 0 rfl) ?_
    have hsz_12 := hh_11.2.2.2.2.2.1
    have htt_12 := hh_11.2.2.2.2.2.2.1
    refine W.room (fun hrc_12 hrs_12 => ?_)
    refine j_callx (A0 := jA base) (H0 := s.heap) (va_runV (As := []) (rest := [.int a1, .ref hands_4]) ⟨hx, hb, hml, hown, hts⟩ (uX11_nextToCheckE l dC dI ca base B hB hAp hB1 hB3 hB10 hB13 hB101 hB221 hB222 G0 s.heap r0 (ph) sn_9 ck_9 vn_9 wl) (cwV 0 hts (jgV (jWr_76 _ (List.mem_of_getElem? (i := 19) rfl)) (jWr_76 _ (List.mem_of_getElem? (i := 20) rfl)) (jWr_76 _ (List.mem_of_getElem? (i := 21) rfl)) (jWr_1 _ (List.mem_of_getElem? (i := 2) rfl)) (jWr_76 _ (List.mem_of_getElem? (i := 22) rfl))) rfl rfl rfl (by decide +kernel) ⟨by rw [← hR]; exact Nat.le_of_ble_eq_true rfl, by rw [← hR]; exact Nat.le_of_ble_eq_true rfl⟩) ⟨fun a U g mk q => by obtain ⟨q0, q1, q2, qK, q10, q11, q12, q13, q14⟩ := q; exact ⟨q0, q1, q2, jG.calling g mk a qK, (jK7.calling g mk a q10), q11, q12, q13, q14⟩, hh_11.recv (C := RX11) (T := TX11) (N := 19) hB13 rfl (by decide) hg_r0 hK, fun U hU hW => ⟨rfl, hU, hh_11.2.1, hG.step hW hU hh_11.1, (hK7.step hW hU hh_11.1), hg_r0, jP.nil, (hh_11.2.2.2.2.2.2.2.2.sub (L1 := [(jFl, jLs dC dI ca G0 3 none wl), (jFdo, jDcx dC dI ca G0 ph sn_9 ck_9 vn_9)]) [5, 0] rfl), trivial⟩⟩ rfl rfl hl.1 rfl (lv_room (Nat.le_of_ble_eq_true rfl)) dX11_advance_15 ⟨by rw [hRc]; show _ + 0 ≤ _; omega, by rw [hRs]; show _ + 0 ≤ _; omega⟩) hh_11.1 (fun q _ h => h) (fun q h => h) (fun r_13 u_12 t_12 H_12 locs_12 ht_12 hvm_12 hr_13 hb_12 hz_12 hk_12 hS_12 => ?_)
    rw [ht_12] at hb_12
    obtain ⟨hb_12, hbE_12⟩ := hb_12
    obtain ⟨hb_121, hb_122, hb_123, hb_124, hb_125⟩ := hb_12
    have hh_12 : jSt (dC, dI) B base G0 G0 EX11_advance s.heap 0 0 [(r0, 13, 10, .ref hands_4), (r0, 13, 4, .ref bo), (bo, 2, 1, .int pc), (bo, 2, 0, .ref pa), (r0, 13, 3, .ref ou)] [] [(jFl, jLs dC dI ca G0 3 none wl), (jFdo, jDcx dC dI ca G0 ph sn_9 ck_9 vn_9), ([(212, 0)], jQc dC dI (ca 5) hands_4 2 fq_5), ([(2, 0), (2, 1)], jOl (dC, dI) G0 2 [bo, ou] s.heap), (jFy, jYb dC dI G0), (jFs11, jSef dC dI G0)] H_12 locs_12 := (((hh_11.call hb_121 hb_122 hb_123 hb_124 hS_12 rfl (L1 := [(r0, 13, 10, .ref hands_4), (r0, 13, 4, .ref bo), (bo, 2, 1, .int pc), (bo, 2, 0, .ref pa), (r0, 13, 3, .ref ou)]) [0, 1, 2, 3, 4] rfl rfl (M1 := []) [] rfl rfl (I1 := [([(212, 0)], jQc dC dI (ca 5) hands_4 2 fq_5), ([(2, 0), (2, 1)], jOl (dC, dI) G0 2 [bo, ou] s.heap), (jFy, jYb dC dI G0), (jFs11, jSef dC dI G0)]) [1, 2, 3, 4] rfl rfl).more hb_125)).addIs hbE_12
    clear hh_11 ht_12 hvm_12 hz_12 hk_12 hS_12 hb_121 hb_122 hb_123 hb_124 hb_125
    clear  hbE_12
    rcases hr_13 with rfl | ⟨ret_14, rfl, hg_ret_14, hp_ret_14⟩
    · skip
      have hd_16 := hh_12.iv 2 rfl
      have hh_18 := hh_12.sub (L1 := [(r0, 13, 10, .ref hands_4), (r0, 13, 4, .ref bo), (bo, 2, 1, .int pc), (bo, 2, 0, .ref pa), (r0, 13, 3, .ref ou)]) [0, 1, 2, 3, 4] rfl (M1 := []) [] rfl (I1 := [(jFl, jLs dC dI ca G0 3 none wl), (jFdo, jDcx dC dI ca G0 ph sn_9 ck_9 vn_9), ([(2, 0), (2, 1)], jOl (dC, dI) G0 2 [bo, ou] s.heap), (jFy, jYb dC dI G0), (jFs11, jSef dC dI G0)]) [0, 1, 3, 4, 5] rfl
      clear hh_12
      refine j7_qastNI hx hb hK2 hh_18 hB hB212 1 rfl (by decide) (by decide) rfl rfl rfl hg_hands_4 (x := a1.toInt) (rfl) (by omega) (Or.inl rfl) hd_16 dX11_advance_18 (fun H_15 locs_15 fq_17 hv_15 ho_15 hq_15 hh_15 => ?_)
      clear hh_18
      have hh_19 := hh_15.addI (hq_15.ie hg_hands_4 (by decide) (by decide))
      clear hh_15
      clear hd_16
      refine lv_aload_n hx hb dX11_advance_19 rfl (lv_at hl 0 rfl) ?_
      refine j7_read hx hb hown hK (C := RX11) (T := TX11) (N := 19) rfl hly_13_10 hlk_73 (hh_19.at 0 rfl) dX11_advance_20 ?_
      refine lv_iload_n hx hb dX11_advance_23 rfl (lv_at hl 1 rfl) ?_
      refine j7_qaldI hx hb hK2 hh_19 hB212 1 rfl (by decide) hg_hands_4 (x := a1.toInt) (rfl) (by omega) (hh_19.iv 0 rfl) dX11_advance_24 (fun o_20 ho_20 heo_20 => ?_)
      rcases ho_20 with rfl | ⟨el_21, rfl, hg_el_21⟩
      · simp only [va_rf]
        refine lv_ifnonnullN hx hb dX11_advance_25 ?_
        have hsz_22 := hh_19.2.2.2.2.2.1
        have htt_22 := hh_19.2.2.2.2.2.2.1
        refine W.room (fun hrc_22 hrs_22 => ?_)
        refine W.widen (k := LC - s.heap.size) (n := LS - jTot s.heap) (by omega) (by omega) ?_
        rw [hQ]
        have hd_23 := hh_19.iv 2 rfl
        have hh_24 := hh_19.sub (L1 := [(r0, 13, 10, .ref hands_4), (r0, 13, 4, .ref bo), (bo, 2, 1, .int pc), (bo, 2, 0, .ref pa), (r0, 13, 3, .ref ou)]) [0, 1, 2, 3, 4] rfl (M1 := []) [] rfl (I1 := [([(212, 0)], jQc dC dI (ca 5) hands_4 2 fq_17), (jFl, jLs dC dI ca G0 3 none wl), ([(2, 0), (2, 1)], jOl (dC, dI) G0 2 [bo, ou] s.heap), (jFy, jYb dC dI G0), (jFs11, jSef dC dI G0)]) [0, 1, 3, 4, 5] rfl
        clear hh_19
        have hh_25 := hh_24.addI (jDcc.ie hd_23.1)
        clear hh_24
        exact W.vret hx hb hr (fun t ht hW => ⟨⟨(pc, pa, n_pa, ph, G0), rfl, by (try dsimp only); exact ⟨(by first | (with_reducible assumption) | omega | rfl | fail), (by first | (with_reducible assumption) | omega | rfl | fail), (by first | (with_reducible assumption) | omega | rfl | fail), (by first | (with_reducible assumption) | omega | rfl | fail), (by first | assumption | fail | omega), (by first | (with_reducible assumption) | omega | rfl | fail)⟩, ⟨hh_25.ra (by first | (simp only; omega) | omega) (by first | (simp only; omega) | omega) (M1 := [(bo, 2, 1, .int pc), (bo, 2, 0, .ref pa)]) [2, 3] rfl ht, hg_pa, jNk.rf, by rw [ht]; exact hh_25.iv 3 rfl, by rw [ht]; exact hh_25.2.2.2.2.2.2.2.2.sub (L1 := [(jFy, jYb dC dI G0), (jFs11, jSef dC dI G0), (jFl, jLs dC dI ca G0 3 none wl), (jFdo, jDcc dC dI ca G0 none ph)]) [4, 5, 2, 0] rfl⟩⟩, by rw [ht]; try exact hh_25.1.1, fun q h9 hq => by rw [ht]; try exact hh_25.1.2.1 q h9 hq⟩) hh_25.1.2.2 dX11_advance_28
      · simp only [va_rf]
        exact absurd (heo_20.trans hv_15.symm.symm) (by simp)
    · skip
      have hd_27 := hh_12.iv 2 rfl
      have hh_29 := hh_12.sub (L1 := [(r0, 13, 10, .ref hands_4), (r0, 13, 4, .ref bo), (bo, 2, 1, .int pc), (bo, 2, 0, .ref pa), (r0, 13, 3, .ref ou)]) [0, 1, 2, 3, 4] rfl (M1 := []) [] rfl (I1 := [(jFl, jLs dC dI ca G0 3 none wl), (jFdo, jDcx dC dI ca G0 ph sn_9 ck_9 vn_9), ([(2, 0), (2, 1)], jOl (dC, dI) G0 2 [bo, ou] s.heap), (jFy, jYb dC dI G0), (jFs11, jSef dC dI G0)]) [0, 1, 3, 4, 5] rfl
      clear hh_12
      refine j7_qastI hx hb hK2 hh_29 hB hB212 1 rfl (by decide) (by decide) rfl rfl rfl hg_hands_4 (x := a1.toInt) (rfl) (by omega) hB3 (T := TX1) (N := 17) rfl (by decide) hg_ret_14 (Or.inr ⟨_, rfl, hg_ret_14⟩) hd_27 dX11_advance_18 (fun H_26 locs_26 fq_28 hv_26 ho_26 hq_26 hh_26 => ?_)
      clear hh_29
      have hh_30 := hh_26.addI (hq_26.ie hg_hands_4 (by decide) (by decide))
      clear hh_26
      clear hd_27
      refine lv_aload_n hx hb dX11_advance_19 rfl (lv_at hl 0 rfl) ?_
      refine j7_read hx hb hown hK (C := RX11) (T := TX11) (N := 19) rfl hly_13_10 hlk_73 (hh_30.at 0 rfl) dX11_advance_20 ?_
      refine lv_iload_n hx hb dX11_advance_23 rfl (lv_at hl 1 rfl) ?_
      refine j7_qaldI hx hb hK2 hh_30 hB212 1 rfl (by decide) hg_hands_4 (x := a1.toInt) (rfl) (by omega) (hh_30.iv 0 rfl) dX11_advance_24 (fun o_31 ho_31 heo_31 => ?_)
      rcases ho_31 with rfl | ⟨el_32, rfl, hg_el_32⟩
      · simp only [va_rf]
        exact absurd (heo_31.trans hv_26.symm.symm) (by simp)
      · simp only [va_rf]
        obtain rfl : ret_14 = el_32 := (Option.some.inj (heo_31.trans hv_26.symm.symm)).symm
        refine lv_ifnonnull (tgt := 29) hx hb dX11_advance_25 (by decide) ?_
        refine lv_aload_n hx hb dX11_advance_29 rfl (lv_at hl 0 rfl) ?_
        refine lv_aload_n hx hb dX11_advance_30 rfl (lv_at hl 0 rfl) ?_
        refine j7_read hx hb hown hK (C := RX11) (T := TX11) (N := 19) rfl hly_13_10 hlk_73 (hh_30.at 0 rfl) dX11_advance_31 ?_
        refine lv_iload_n hx hb dX11_advance_34 rfl (lv_at hl 1 rfl) ?_
        refine j7_qaldI hx hb hK2 hh_30 hB212 1 rfl (by decide) hg_hands_4 (x := a1.toInt) (rfl) (by omega) (hh_30.iv 0 rfl) dX11_advance_35 (fun o_33 ho_33 heo_33 => ?_)
        rcases ho_33 with rfl | ⟨el_34, rfl, hg_el_34⟩
        · simp only [va_rf]
          exact absurd (heo_33.trans hv_26.symm.symm) (by simp)
        · simp only [va_rf]
          obtain rfl : ret_14 = el_34 := (Option.some.inj (heo_33.trans hv_26.symm.symm)).symm
          have hX_35 := (hh_30.iv 2 rfl)
          obtain ⟨yb_35, ye_35, w_35, pho_35, fb_35, fe_35, ps_35, pk_35, vc_35, hgb_35, hge_35, h5_35, h6_35, hd_35, hpq_35, hE_35, hpl_35, hpw_35⟩ := jDcc.opn hX_35.1 hg_el_34
          have hpw_35 := hpw_35 rfl
          have hxq_35 := hX_35.2 _ _ hg_el_34
          have hxs_35 : sn_9 ret_14 = ps_35 := Value.int.inj (jf.uniq hxq_35.1 (hd_35.1 _ (List.mem_of_getElem? (i := 0) rfl)).2)
          have hxk_35 : ck_9 ret_14 = pk_35 := Value.int.inj (jf.uniq hxq_35.2.1 (hd_35.1 _ (List.mem_of_getElem? (i := 1) rfl)).2)
          have hxv_35 : vn_9 ret_14 = vc_35 := jf.uniq hxq_35.2.2 (hd_35.1 _ (List.mem_of_getElem? (i := 2) rfl)).2
          have hxl_35 : pk_35.toInt < ps_35.toInt := by rw [← hxk_35, ← hxs_35]; exact (hp_ret_14).1
          have hxn_35 : vc_35 = .null := hxv_35.symm.trans (hp_ret_14).2
          have hh_37 := hh_30.sub (L1 := [(r0, 13, 10, .ref hands_4), (r0, 13, 4, .ref bo), (bo, 2, 1, .int pc), (bo, 2, 0, .ref pa), (r0, 13, 3, .ref ou)]) [0, 1, 2, 3, 4] rfl (M1 := []) [] rfl (I1 := [([(212, 0)], jQc dC dI (ca 5) hands_4 2 fq_28), (jFl, jLs dC dI ca G0 3 none wl), ([(2, 0), (2, 1)], jOl (dC, dI) G0 2 [bo, ou] s.heap), (jFy, jYb dC dI G0), (jFs11, jSef dC dI G0)]) [0, 1, 3, 4, 5] rfl
          clear hh_30
          have hh_38 := (hh_37.more (P1 := [(ret_14, 3, 4, .int ps_35), (ret_14, 3, 10, .int pk_35), (ret_14, 3, 5, .ref yb_35), (ret_14, 3, 6, .ref ye_35)]) (jP.cons hg_el_34 (hd_35.1 _ (List.mem_of_getElem? (i := 0) rfl)).2 (jP.cons hg_el_34 (hd_35.1 _ (List.mem_of_getElem? (i := 1) rfl)).2 (jP.cons hg_el_34 h5_35 (jP.cons hg_el_34 h6_35 jP.nil))))).moreM hd_35.2.1
          have hh_39 := hh_38.addI (jDcc.ie hE_35)
          clear hh_38
          have hps_35 := hd_35.2.2.2
          have hsn_35 := hd_35.2.2.1
          obtain ⟨v_40, hv_40, hh_35⟩ := hh_39.pin (C := RX1) (T := TX1) (N := 17) hB3 rfl (by decide) hg_el_34 (i := 11) (by decide) rfl
          have hvq_35 : vc_35 = v_40 := jf.uniq (hd_35.1 _ (List.mem_of_getElem? (i := 2) rfl)).2 (hh_35.at 0 rfl)
          subst hvq_35
          clear hh_39
          rcases hv_40 with rfl | ⟨chk_41, nchk_41, rfl, hg_chk_41, hlen_chk_41⟩
          · have hpo_35 := jPo.nul (hpq_35 rfl)
            have hnx_35 := jEd.nx hsn_35 (k := pk_35.toInt) (by omega) (by omega)
            have hsz_43 := hh_35.2.2.2.2.2.1
            have htt_43 := hh_35.2.2.2.2.2.2.1
            refine W.room (fun hrc_43 hrs_43 => ?_)
            refine va_callv (A0 := jA base) (H0 := s.heap) (va_runV (As := [.ref ret_14]) (rest := []) ⟨hx, hb, hml, hown, hts⟩ (uX11_beginE l dC dI ca base B hB hAp hB1 hB3 hB7 hB11 hB13 hB101 hB171 hB172 hB173 hB210 hB223 hB280 G0 H_26 r0 ret_14 yb_35 ye_35 ps_35 pk_35 (pho_35) wl fb_35 fe_35 LC LS) (cwV 1 hts (jgV (jWr_77 _ (List.mem_of_getElem? (i := 8) rfl)) (jWr_77 _ (List.mem_of_getElem? (i := 9) rfl)) (jWr_77 _ (List.mem_of_getElem? (i := 10) rfl)) (jWr_1 _ (List.mem_of_getElem? (i := 2) rfl)) (jWr_77 _ (List.mem_of_getElem? (i := 11) rfl))) rfl rfl rfl (by decide +kernel) ⟨by rw [← hR]; exact Nat.le_of_ble_eq_true rfl, by rw [← hR]; exact Nat.le_of_ble_eq_true rfl⟩) ⟨fun a U g mk q => by obtain ⟨q0, q1, q2, qK, q10, q11, q12, q13, q14, q15, q16, q17, q18, q19, q20⟩ := q; exact ⟨q0, q1, q2, jG.calling g mk a qK, (va_K.moved (Vm.Alike.refl U.vm) q10), (jK7.calling g mk a q11), (jK8.calling g mk a q12), q13, q14, q15, q16, q17, q18, q19, q20⟩, hh_35.recv (C := RX11) (T := TX11) (N := 19) hB13 rfl (by decide) hg_r0 hK, fun U hU hW => ⟨rfl, hU, hh_35.2.1, hG.step hW hU hh_35.1, va_K.moved hW.alike hK2, (hK7.step hW hU hh_35.1), (jK8.warm hW hK8), hg_r0, hg_el_34, hgb_35, hge_35, (hh_35.2.2.1.sub (L1 := [(ret_14, 3, 5, .ref yb_35), (ret_14, 3, 6, .ref ye_35), (ret_14, 3, 4, .int ps_35), (ret_14, 3, 10, .int pk_35)]) [3, 4, 1, 2] rfl), (hh_35.2.2.2.2.2.2.2.1.sub (L1 := [(yb_35, 171, 40, ca 1, fb_35), (ye_35, 172, 40, ca 1, fe_35)]) [0, 1] rfl), (hh_35.2.2.2.2.2.2.2.2.sub (L1 := [(jFl, jLs dC dI ca G0 3 none wl), (jFdo, jDcc dC dI ca G0 (some ret_14) pho_35)]) [2, 0] rfl), (by omega), (by omega), ⟨(by first | (with_reducible assumption) | omega | rfl | fail), (by first | (with_reducible assumption) | omega | rfl | fail), (by first | (with_reducible assumption) | omega | rfl | fail), (by first | assumption | fail | omega)⟩⟩⟩ rfl rfl hl.1 rfl (lv_room (Nat.le_of_ble_eq_true rfl)) dX11_advance_36 ⟨by rw [hRc]; omega, by rw [hRs]; omega⟩) hh_35.1 (fun q _ h => h) (fun q h => h) (fun u_43 t_43 H_43 locs_43 ht_43 hvm_43 hr_44 hb_43 hz_43 hk_43 hS_43 => ?_)
            rw [ht_43] at hb_43
            obtain ⟨qc_43, m_qc_43, G_43⟩ := u_43
            simp only at hb_43
            obtain ⟨⟨hb_431, hb_432, hb_433, hb_434, hb_435, hb_436⟩, hgq_43_0, hN_43, hbE_43⟩ := hb_43
            have hM_43 := hN_43
            have hN_43 : (jNk [0, 1, 2, 3, 4, 6, 7, 8, 9, 10, 12, 13, 14, 15, 16]) G0 G_43 := hN_43.sub (by decide)
            have hh_43 : jSt (dC, dI) B base G0 G_43 EX11_advance s.heap (0 + (1)) (0 + ((jSo fe_35 (pk_35.toInt : Int) - jSo fb_35 (pk_35.toInt : Int)).toNat)) [(ret_14, 3, 11, .ref qc_43), (ret_14, 3, 4, .int ps_35), (ret_14, 3, 10, .int pk_35), (ret_14, 3, 5, .ref yb_35), (ret_14, 3, 6, .ref ye_35), (r0, 13, 10, .ref hands_4), (r0, 13, 4, .ref bo), (bo, 2, 1, .int pc), (bo, 2, 0, .ref pa), (r0, 13, 3, .ref ou)] [(yb_35, 171, 40, ca 1, fb_35), (ye_35, 172, 40, ca 1, fe_35)] [([(212, 0)], jQc dC dI (ca 5) hands_4 2 fq_28), ([(2, 0), (2, 1)], jOl (dC, dI) G0 2 [bo, ou] s.heap), (jFy, jYb dC dI G0), (jFs11, jSef dC dI G0)] H_43 locs_43 := (hh_35.callG hb_431 hb_432 hb_433 hb_434 hb_435 hS_43 rfl (L1 := [(ret_14, 3, 4, .int ps_35), (ret_14, 3, 10, .int pk_35), (ret_14, 3, 5, .ref yb_35), (ret_14, 3, 6, .ref ye_35), (r0, 13, 10, .ref hands_4), (r0, 13, 4, .ref bo), (bo, 2, 1, .int pc), (bo, 2, 0, .ref pa), (r0, 13, 3, .ref ou)]) [1, 2, 3, 4, 5, 6, 7, 8, 9] rfl rfl (M1 := [(yb_35, 171, 40, ca 1, fb_35), (ye_35, 172, 40, ca 1, fe_35)]) [0, 1] rfl rfl (I1 := [([(212, 0)], jQc dC dI (ca 5) hands_4 2 fq_28), ([(2, 0), (2, 1)], jOl (dC, dI) G0 2 [bo, ou] s.heap), (jFy, jYb dC dI G0), (jFs11, jSef dC dI G0)]) [1, 3, 4, 5] rfl rfl).more hb_436
            have hNn_43 : (jNk [0, 1, 2, 3, 4, 6, 7, 8, 9, 10, 12, 13, 14, 15, 16]) G0 G_43 := (jNk.rf).tr hN_43
            have hg_45 := hb_432 _ _ hg_r0
            have hg_46 := hb_432 _ _ hgb_35
            have hg_47 := hb_432 _ _ hge_35
            have hg_48 := hb_432 _ _ hg_hands_4
            have hg_49 := hb_432 _ _ hg_bo
            have hg_50 := hb_432 _ _ hg_pa
            have hg_51 := hb_432 _ _ hg_ou
            have hd_53 := jYb.grow (hh_43.iv 2 rfl) hb_432 hN_43 (by decide)
            have hh_54 := hh_43.sub (L1 := [(ret_14, 3, 11, .ref qc_43), (ret_14, 3, 4, .int ps_35), (ret_14, 3, 10, .int pk_35), (ret_14, 3, 5, .ref yb_35), (ret_14, 3, 6, .ref ye_35), (r0, 13, 10, .ref hands_4), (r0, 13, 4, .ref bo), (bo, 2, 1, .int pc), (bo, 2, 0, .ref pa), (r0, 13, 3, .ref ou)]) [0, 1, 2, 3, 4, 5, 6, 7, 8, 9] rfl (M1 := [(yb_35, 171, 40, ca 1, fb_35), (ye_35, 172, 40, ca 1, fe_35)]) [0, 1] rfl (I1 := [([(212, 0)], jQc dC dI (ca 5) hands_4 2 fq_28), ([(2, 0), (2, 1)], jOl (dC, dI) G0 2 [bo, ou] s.heap), (jFs11, jSef dC dI G0)]) [0, 1, 3] rfl
            clear hh_43
            have hh_55 := hh_54.addI (jYb.ie hd_53)
            clear hh_54
            have hd_56 := jSef.grow (hh_55.iv 3 rfl) hb_432 hM_43 (by decide)
            have hh_57 := hh_55.sub (L1 := [(ret_14, 3, 11, .ref qc_43), (ret_14, 3, 4, .int ps_35), (ret_14, 3, 10, .int pk_35), (ret_14, 3, 5, .ref yb_35), (ret_14, 3, 6, .ref ye_35), (r0, 13, 10, .ref hands_4), (r0, 13, 4, .ref bo), (bo, 2, 1, .int pc), (bo, 2, 0, .ref pa), (r0, 13, 3, .ref ou)]) [0, 1, 2, 3, 4, 5, 6, 7, 8, 9] rfl (M1 := [(yb_35, 171, 40, ca 1, fb_35), (ye_35, 172, 40, ca 1, fe_35)]) [0, 1] rfl (I1 := [(jFy, jYb dC dI G_43), ([(212, 0)], jQc dC dI (ca 5) hands_4 2 fq_28), ([(2, 0), (2, 1)], jOl (dC, dI) G0 2 [bo, ou] s.heap)]) [0, 1, 2] rfl
            clear hh_55
            have hh_58 := hh_57.addI (jSef.ie hd_56)
            clear hh_57
            have hh_59 := hh_58.addIs hbE_43
            try simp only at hr_44
            refine lv_aload_n hx hb dX11_advance_39 rfl (lv_at hl 0 rfl) ?_
            refine j7_read hx hb hown hK (C := RX11) (T := TX11) (N := 19) rfl hly_13_10 hlk_73 (hh_59.at 5 rfl) dX11_advance_40 ?_
            refine lv_iload_n hx hb dX11_advance_43 rfl (lv_at hl 1 rfl) ?_
            refine j7_qaldI hx hb hK2 hh_59 hB212 1 rfl (by decide) hg_48 (x := a1.toInt) (rfl) (by omega) (hh_59.iv 4 rfl) dX11_advance_44 (fun o_60 ho_60 heo_60 => ?_)
            rcases ho_60 with rfl | ⟨el_61, rfl, hg_el_61⟩
            · simp only [va_rf]
              exact absurd (heo_60.trans hv_26.symm.symm) (by simp)
            · simp only [va_rf]
              obtain rfl : ret_14 = el_61 := (Option.some.inj (heo_60.trans hv_26.symm.symm)).symm
              refine lv_astore_n (lv' := [(2, .ref ret_14), (0, .ref r0), (1, .int a1)]) hx hb dX11_advance_45 rfl hl (by decide) rfl (fun ls hl => ?_)
              refine lv_aload_n hx hb dX11_advance_46 rfl (lv_at hl 0 rfl) ?_
              refine lv_dup hx hb dX11_advance_47 rfl ?_
              obtain ⟨v_63, hv_63, hh_64⟩ := hh_59.pin (C := RX1) (T := TX1) (N := 17) hB3 rfl (by decide) hg_el_61 (i := 13) (by decide) rfl
              clear hh_59
              obtain ⟨left_65, rfl⟩ := hv_63
              refine j7_read hx hb hown hK (C := RX1) (T := TX1) (N := 17) rfl hly_3_13 hlk_577 (hh_64.at 0 rfl) dX11_advance_48 ?_
              refine lv_iconst (v := 1) hx hb dX11_advance_51 (by decide) ?_
              refine lv_isub hx hb dX11_advance_52 ?_
              refine lv_topi (fun z_66 ez_66 => ?_)
              refine j7_put hx hb hown hK hh_64 hB hAp hB3 (C := RX1) (T := TX1) (N := 17) rfl (by decide) hg_el_61 (i := 13) (by decide) hly_3_13 rfl hlk_577 rfl (ty := .int) (v := .int z_66) (by decide +kernel) rfl rfl (⟨_, rfl⟩) rfl (L1 := [(ret_14, 3, 11, .ref qc_43), (ret_14, 3, 4, .int ps_35), (ret_14, 3, 10, .int pk_35), (ret_14, 3, 5, .ref yb_35), (ret_14, 3, 6, .ref ye_35), (r0, 13, 10, .ref hands_4), (r0, 13, 4, .ref bo), (bo, 2, 1, .int pc), (bo, 2, 0, .ref pa), (r0, 13, 3, .ref ou)]) [1, 2, 3, 4, 5, 6, 7, 8, 9, 10] rfl rfl rfl dX11_advance_53 (fun H_67 locs_67 hh_67 => ?_)
              clear hh_64
              refine lv_aload_n hx hb dX11_advance_56 rfl (lv_at hl 0 rfl) ?_
              refine j7_read hx hb hown hK (C := RX1) (T := TX1) (N := 17) rfl hly_3_13 hlk_577 (hh_67.at 0 rfl) dX11_advance_57 ?_
              refine lv_if_gt (tgt := 70) hx hb dX11_advance_60 (by decide) (fun c_68 => ?_) (fun c_68 => ?_)
              · skip
                have c_68' : z_66.toInt > 0 := jb_gt (rfl) ((by decide)) c_68
                obtain ⟨phn_69, hphn_69⟩ : ∃ q : Nat, q = pho_35 + (575 * (ps_35.toInt - pk_35.toInt) - 16 + (1500 - jSo fe_35 pk_35.toInt)).toNat := ⟨_, rfl⟩
                have hF_69 := jDcc.full (ph1 := phn_69) (hh_67.iv 1 rfl) hg_el_61 (hh_67.at 4 rfl) (hh_67.at 5 rfl) ⟨(hh_67.2.2.1.sub (L1 := [(ret_14, 3, 4, .int ps_35), (ret_14, 3, 10, .int pk_35), (ret_14, 3, 11, .ref qc_43)]) [2, 3, 1] rfl), (hh_67.2.2.2.2.2.2.2.1.sub (L1 := [(yb_35, 171, 40, ca 1, fb_35), (ye_35, 172, 40, ca 1, fe_35)]) [0, 1] rfl), hsn_35, by omega⟩ (w := (575 * (ps_35.toInt - pk_35.toInt) - 16 + (1500 - jSo fe_35 pk_35.toInt)).toNat) (fun _ => jPo.mkR (by omega)) (by omega) (fun _ => by omega)
                have hh_70 := hh_67.sub (L1 := [(ret_14, 3, 13, .int z_66), (ret_14, 3, 11, .ref qc_43), (ret_14, 3, 4, .int ps_35), (ret_14, 3, 10, .int pk_35), (ret_14, 3, 5, .ref yb_35), (ret_14, 3, 6, .ref ye_35), (r0, 13, 10, .ref hands_4), (r0, 13, 4, .ref bo), (bo, 2, 1, .int pc), (bo, 2, 0, .ref pa), (r0, 13, 3, .ref ou)]) [0, 1, 2, 3, 4, 5, 6, 7, 8, 9, 10] rfl (M1 := [(yb_35, 171, 40, ca 1, fb_35), (ye_35, 172, 40, ca 1, fe_35)]) [0, 1] rfl (I1 := [(jFl, jLs dC dI ca G_43 3 none wl), (jFs11, jSef dC dI G_43), (jFy, jYb dC dI G_43), ([(212, 0)], jQc dC dI (ca 5) hands_4 2 fq_28), ([(2, 0), (2, 1)], jOl (dC, dI) G0 2 [bo, ou] s.heap)]) [0, 2, 3, 4, 5] rfl
                clear hh_67
                have hh_71 := hh_70.addI (jDcc.ie hF_69)
                clear hh_70
                have hsz_72 := hh_71.2.2.2.2.2.1
                have htt_72 := hh_71.2.2.2.2.2.2.1
                refine W.room (fun hrc_72 hrs_72 => ?_)
                refine W.widen (k := LC - s.heap.size) (n := LS - jTot s.heap) (by omega) (by omega) ?_
                rw [hQ]
                exact W.vret hx hb hr (fun t ht hW => ⟨⟨(pc, pa, n_pa, phn_69, G_43), rfl, by (try dsimp only); exact ⟨(by first | (with_reducible assumption) | omega | rfl | fail), (by first | (with_reducible assumption) | omega | rfl | fail), (by first | (with_reducible assumption) | omega | rfl | fail), (by first | (with_reducible assumption) | omega | rfl | fail), (by first | assumption | fail | omega), (by first | (with_reducible assumption) | omega | rfl | fail)⟩, ⟨hh_71.ra (by first | (simp only; omega) | omega) (by first | (simp only; omega) | omega) (M1 := [(bo, 2, 1, .int pc), (bo, 2, 0, .ref pa)]) [8, 9] rfl ht, hg_50, hNn_43, by rw [ht]; exact hh_71.iv 5 rfl, by rw [ht]; exact hh_71.2.2.2.2.2.2.2.2.sub (L1 := [(jFy, jYb dC dI G_43), (jFs11, jSef dC dI G_43), (jFl, jLs dC dI ca G_43 3 none wl), (jFdo, jDcc dC dI ca G_43 none phn_69)]) [3, 2, 1, 0] rfl⟩⟩, by rw [ht]; try exact hh_71.1.1, fun q h9 hq => by rw [ht]; try exact hh_71.1.2.1 q h9 hq⟩) hh_71.1.2.2 dX11_advance_70
              · skip
                have c_68' : z_66.toInt ≤ 0 := jb_gt_n (rfl) ((by decide)) c_68
                refine lv_aload_n hx hb dX11_advance_63 rfl (lv_at hl 0 rfl) ?_
                refine j7_read hx hb hown hK (C := RX1) (T := TX1) (N := 17) rfl hly_3_11 hlk_567 (hh_67.at 1 rfl) dX11_advance_64 ?_
                refine lv_ifnonnull (tgt := 71) hx hb dX11_advance_67 (by decide) ?_
                refine lv_aload_n hx hb dX11_advance_71 rfl (lv_at hl 0 rfl) ?_
                obtain ⟨v_73, hv_73, hh_74⟩ := hh_67.pin (C := RX1) (T := TX1) (N := 17) hB3 rfl (by decide) hg_el_61 (i := 12) (by decide) rfl
                clear hh_67
                rcases hv_73 with rfl | ⟨found_75, rfl, hg_found_75⟩
                · refine j7_read hx hb hown hK (C := RX1) (T := TX1) (N := 17) rfl hly_3_12 hlk_580 (hh_74.at 0 rfl) dX11_advance_72 ?_
                  refine j7_nst_n (lv' := [(3, .null), (2, .ref ret_14), (0, .ref r0), (1, .int a1)]) hx hb dX11_advance_75 rfl hl (by decide) rfl (fun ls hl => ?_)
                  refine j7_nld_n hx hb dX11_advance_76 rfl (lv_at hl 0 rfl) ?_
                  refine lv_ifnullN (tgt := 93) hx hb dX11_advance_77 (by decide) ?_
                  refine lv_aload_n hx hb dX11_advance_93 rfl (lv_at hl 2 rfl) ?_
                  obtain ⟨v_76, hv_76, hh_77⟩ := hh_74.pin (C := RX11) (T := TX11) (N := 19) hB13 rfl (by decide) hg_45 (i := 5) (by decide) rfl
                  clear hh_74
                  obtain ⟨kernel_78, rfl, hg_kernel_78⟩ := hv_76
                  refine j7_read hx hb hown hK (C := RX11) (T := TX11) (N := 19) rfl hly_13_5 hlk_41 (hh_77.at 0 rfl) dX11_advance_94 ?_
                  refine lv_aload_n hx hb dX11_advance_97 rfl (lv_at hl 1 rfl) ?_
                  refine lv_aload_n hx hb dX11_advance_98 rfl (lv_at hl 1 rfl) ?_
                  refine j7_read hx hb hown hK (C := RX1) (T := TX1) (N := 17) rfl hly_3_10 hlk_171 (hh_77.at 5 rfl) dX11_advance_99 ?_
                  refine lv_aload_n hx hb dX11_advance_102 rfl (lv_at hl 2 rfl) ?_
                  refine j7_read hx hb hown hK (C := RX11) (T := TX11) (N := 19) rfl hly_13_5 hlk_41 (hh_77.at 0 rfl) dX11_advance_103 ?_
                  obtain ⟨v_79, hv_79, hh_80⟩ := hh_77.pin (C := RX5) (T := TX5) (N := 11) hB7 rfl (by decide) hg_kernel_78 (i := 2) (by decide) rfl
                  clear hh_77
                  obtain ⟨start_81, rfl, hg_start_81⟩ := hv_79
                  refine j7_read hx hb hown hK (C := RX5) (T := TX5) (N := 11) rfl hly_7_2 hlk_217 (hh_80.at 0 rfl) dX11_advance_106 ?_
                  have hsz_82 := hh_80.2.2.2.2.2.1
                  have htt_82 := hh_80.2.2.2.2.2.2.1
                  refine W.room (fun hrc_82 hrs_82 => ?_)
                  refine j_callx (A0 := jA base) (H0 := s.heap) (va_runV (As := [.int pk_35, .ref start_81]) (rest := [.ref kernel_78]) ⟨hx, hb, hml, hown, hts⟩ (uX1_stateBehind l dC dI ca base B hB hAp hB3 hB11 hB210 G_43 H_67 ret_14 pk_35 start_81 0) (cwV 2 hts (jgV (jWr_30 _ (List.mem_of_getElem? (i := 9) rfl)) (jWr_30 _ (List.mem_of_getElem? (i := 10) rfl)) (jWr_30 _ (List.mem_of_getElem? (i := 11) rfl)) (jWr_2 _ (List.mem_of_getElem? (i := 21) rfl)) (jWr_30 _ (List.mem_of_getElem? (i := 12) rfl))) rfl rfl rfl (by decide +kernel) ⟨by rw [← hR]; exact Nat.le_of_ble_eq_true rfl, by rw [← hR]; exact Nat.le_of_ble_eq_true rfl⟩) ⟨fun a U g mk q => by obtain ⟨q0, q1, q2, qK, q10, q11, q12, q13, q14⟩ := q; exact ⟨q0, q1, q2, jG.calling g mk a qK, (va_K.moved (Vm.Alike.refl U.vm) q10), q11, q12, q13, q14⟩, hh_80.recv (C := RX1) (T := TX1) (N := 17) hB3 rfl (by decide) hg_el_61 hK, fun U hU hW => ⟨rfl, hU, hh_80.2.1, hG.step hW hU hh_80.1, va_K.moved hW.alike hK2, hg_el_61, hg_start_81, jP.nil, trivial⟩⟩ rfl rfl hl.1 rfl (lv_room (Nat.le_of_ble_eq_true rfl)) dX11_advance_109 ⟨by rw [hRc]; show _ + 0 ≤ _; omega, by rw [hRs]; show _ + 0 ≤ _; omega⟩) hh_80.1 (fun q _ h => h) (fun q h => h) (fun r_83 u_82 t_82 H_82 locs_82 ht_82 hvm_82 hr_83 hb_82 hz_82 hk_82 hS_82 => ?_)
                  rw [ht_82] at hb_82
                  obtain ⟨hb_821, hb_822, hb_823, hb_824, hb_825⟩ := hb_82
                  have hh_82 : jSt (dC, dI) B base G0 G_43 EX11_advance s.heap (0 + (1)) (0 + ((jSo fe_35 (pk_35.toInt : Int) - jSo fb_35 (pk_35.toInt : Int)).toNat)) [(kernel_78, 7, 2, .ref start_81), (r0, 13, 5, .ref kernel_78), (ret_14, 3, 12, .null), (ret_14, 3, 13, .int z_66), (ret_14, 3, 11, .ref qc_43), (ret_14, 3, 4, .int ps_35), (ret_14, 3, 10, .int pk_35), (ret_14, 3, 5, .ref yb_35), (ret_14, 3, 6, .ref ye_35), (r0, 13, 10, .ref hands_4), (r0, 13, 4, .ref bo), (bo, 2, 1, .int pc), (bo, 2, 0, .ref pa), (r0, 13, 3, .ref ou)] [(yb_35, 171, 40, ca 1, fb_35), (ye_35, 172, 40, ca 1, fe_35)] [(jFl, jLs dC dI ca G_43 3 none wl), (jFdo, jDcc dC dI ca G_43 (some ret_14) pho_35), (jFs11, jSef dC dI G_43), (jFy, jYb dC dI G_43), ([(212, 0)], jQc dC dI (ca 5) hands_4 2 fq_28), ([(2, 0), (2, 1)], jOl (dC, dI) G0 2 [bo, ou] s.heap)] H_82 locs_82 := ((hh_80.call hb_821 hb_822 hb_823 hb_824 hS_82 rfl (L1 := [(kernel_78, 7, 2, .ref start_81), (r0, 13, 5, .ref kernel_78), (ret_14, 3, 12, .null), (ret_14, 3, 13, .int z_66), (ret_14, 3, 11, .ref qc_43), (ret_14, 3, 4, .int ps_35), (ret_14, 3, 10, .int pk_35), (ret_14, 3, 5, .ref yb_35), (ret_14, 3, 6, .ref ye_35), (r0, 13, 10, .ref hands_4), (r0, 13, 4, .ref bo), (bo, 2, 1, .int pc), (bo, 2, 0, .ref pa), (r0, 13, 3, .ref ou)]) [0, 1, 2, 3, 4, 5, 6, 7, 8, 9, 10, 11, 12, 13] rfl rfl (M1 := [(yb_35, 171, 40, ca 1, fb_35), (ye_35, 172, 40, ca 1, fe_35)]) [0, 1] rfl rfl (I1 := [(jFl, jLs dC dI ca G_43 3 none wl), (jFdo, jDcc dC dI ca G_43 (some ret_14) pho_35), (jFs11, jSef dC dI G_43), (jFy, jYb dC dI G_43), ([(212, 0)], jQc dC dI (ca 5) hands_4 2 fq_28), ([(2, 0), (2, 1)], jOl (dC, dI) G0 2 [bo, ou] s.heap)]) [0, 1, 2, 3, 4, 5] rfl rfl).more hb_825)
                  clear hh_80 ht_82 hvm_82 hz_82 hk_82 hS_82 hb_821 hb_822 hb_823 hb_824 hb_825
                  obtain ⟨ret_84, rfl, hg_ret_84⟩ := hr_83
                  refine lv_aload_n hx hb dX11_advance_112 rfl (lv_at hl 1 rfl) ?_
                  refine j7_read hx hb hown hK (C := RX1) (T := TX1) (N := 17) rfl hly_3_11 hlk_567 (hh_82.at 4 rfl) dX11_advance_113 ?_
                  refine lv_aload_n hx hb dX11_advance_116 rfl (lv_at hl 1 rfl) ?_
                  have hsz_85 := hh_82.2.2.2.2.2.1
                  have htt_85 := hh_82.2.2.2.2.2.2.1
                  refine W.room (fun hrc_85 hrs_85 => ?_)
                  refine va_calli (A0 := jA base) (H0 := s.heap) (va_runV (As := []) (rest := [.ref qc_43, .ref ret_84, .ref kernel_78]) ⟨hx, hb, hml, hown, hts⟩ (uX1_earlyFault l dC dI ca base B hB hAp hB3 hB101 G_43 H_82 ret_14) (cwV 0 hts (jgV (jWr_78 _ (List.mem_of_getElem? (i := 10) rfl)) (jWr_78 _ (List.mem_of_getElem? (i := 11) rfl)) (jWr_78 _ (List.mem_of_getElem? (i := 12) rfl)) (jWr_2 _ (List.mem_of_getElem? (i := 21) rfl)) (jWr_78 _ (List.mem_of_getElem? (i := 13) rfl))) rfl rfl rfl (by decide +kernel) ⟨by rw [← hR]; exact Nat.le_of_ble_eq_true rfl, by rw [← hR]; exact Nat.le_of_ble_eq_true rfl⟩) ⟨fun a U g mk q => by obtain ⟨q0, q1, q2, qK, q10, q11, q12⟩ := q; exact ⟨q0, q1, q2, jG.calling g mk a qK, q10, q11, q12⟩, hh_82.recv (C := RX1) (T := TX1) (N := 17) hB3 rfl (by decide) hg_el_61 hK, fun U hU hW => ⟨rfl, hU, hh_82.2.1, hG.step hW hU hh_82.1, hg_el_61, jP.nil, trivial⟩⟩ rfl rfl hl.1 rfl (lv_room (Nat.le_of_ble_eq_true rfl)) dX11_advance_117 ⟨by rw [hRc]; show _ + 0 ≤ _; omega, by rw [hRs]; show _ + 0 ≤ _; omega⟩) hh_82.1 (fun q _ h => h) (fun q h => h) (fun r_86 u_85 t_85 H_85 locs_85 ht_85 hvm_85 hr_86 hb_85 hz_85 hk_85 hS_85 => ?_)
                  rw [ht_85] at hb_85
                  obtain ⟨hb_851, hb_852, hb_853, hb_854, hb_855⟩ := hb_85
                  have hh_85 : jSt (dC, dI) B base G0 G_43 EX11_advance s.heap (0 + (1)) (0 + ((jSo fe_35 (pk_35.toInt : Int) - jSo fb_35 (pk_35.toInt : Int)).toNat)) [(kernel_78, 7, 2, .ref start_81), (r0, 13, 5, .ref kernel_78), (ret_14, 3, 12, .null), (ret_14, 3, 13, .int z_66), (ret_14, 3, 11, .ref qc_43), (ret_14, 3, 4, .int ps_35), (ret_14, 3, 10, .int pk_35), (ret_14, 3, 5, .ref yb_35), (ret_14, 3, 6, .ref ye_35), (r0, 13, 10, .ref hands_4), (r0, 13, 4, .ref bo), (bo, 2, 1, .int pc), (bo, 2, 0, .ref pa), (r0, 13, 3, .ref ou)] [(yb_35, 171, 40, ca 1, fb_35), (ye_35, 172, 40, ca 1, fe_35)] [(jFl, jLs dC dI ca G_43 3 none wl), (jFdo, jDcc dC dI ca G_43 (some ret_14) pho_35), (jFs11, jSef dC dI G_43), (jFy, jYb dC dI G_43), ([(212, 0)], jQc dC dI (ca 5) hands_4 2 fq_28), ([(2, 0), (2, 1)], jOl (dC, dI) G0 2 [bo, ou] s.heap)] H_85 locs_85 := ((hh_82.call hb_851 hb_852 hb_853 hb_854 hS_85 rfl (L1 := [(kernel_78, 7, 2, .ref start_81), (r0, 13, 5, .ref kernel_78), (ret_14, 3, 12, .null), (ret_14, 3, 13, .int z_66), (ret_14, 3, 11, .ref qc_43), (ret_14, 3, 4, .int ps_35), (ret_14, 3, 10, .int pk_35), (ret_14, 3, 5, .ref yb_35), (ret_14, 3, 6, .ref ye_35), (r0, 13, 10, .ref hands_4), (r0, 13, 4, .ref bo), (bo, 2, 1, .int pc), (bo, 2, 0, .ref pa), (r0, 13, 3, .ref ou)]) [0, 1, 2, 3, 4, 5, 6, 7, 8, 9, 10, 11, 12, 13] rfl rfl (M1 := [(yb_35, 171, 40, ca 1, fb_35), (ye_35, 172, 40, ca 1, fe_35)]) [0, 1] rfl rfl (I1 := [(jFl, jLs dC dI ca G_43 3 none wl), (jFdo, jDcc dC dI ca G_43 (some ret_14) pho_35), (jFs11, jSef dC dI G_43), (jFy, jYb dC dI G_43), ([(212, 0)], jQc dC dI (ca 5) hands_4 2 fq_28), ([(2, 0), (2, 1)], jOl (dC, dI) G0 2 [bo, ou] s.heap)]) [0, 1, 2, 3, 4, 5] rfl rfl).more hb_855)
                  clear hh_82 ht_85 hvm_85 hz_85 hk_85 hS_85 hb_851 hb_852 hb_853 hb_854 hb_855
                  have hsz_87 := hh_85.2.2.2.2.2.1
                  have htt_87 := hh_85.2.2.2.2.2.2.1
                  refine W.room (fun hrc_87 hrs_87 => ?_)
                  refine j_callx (A0 := jA base) (H0 := s.heap) (va_runV (As := [.ref ret_84, .ref qc_43, .int r_86]) (rest := []) ⟨hx, hb, hml, hown, hts⟩ (uX5_checkS l dC dI ca base B hB hAp hB5 hB7 hB8 hB11 hB12 hB101 hB102 hB132 hB133 hB211 hB214 hB280 hB290 hB291 hB292 hB293 hB313 hB315 G_43 H_85 kernel_78 ret_84 qc_43 r_86 m_qc_43 1 LC LS) (cwV 3 hts (jgV (jWr_78 _ (List.mem_of_getElem? (i := 14) rfl)) (jWr_78 _ (List.mem_of_getElem? (i := 15) rfl)) (jWr_78 _ (List.mem_of_getElem? (i := 16) rfl)) (jWr_2 _ (List.mem_of_getElem? (i := 4) rfl)) (jWr_78 _ (List.mem_of_getElem? (i := 17) rfl))) rfl rfl rfl (by decide +kernel) ⟨by rw [← hR]; exact Nat.le_of_ble_eq_true rfl, by rw [← hR]; exact Nat.le_of_ble_eq_true rfl⟩) ⟨fun a U g mk q => by obtain ⟨q0, q1, q2, qK, q10, q11, q12, q13, q14, q15, q16, q17, q18⟩ := q; exact ⟨q0, q1, q2, jG.calling g mk a qK, (va_K.moved (Vm.Alike.refl U.vm) q10), (jK5.moved (Vm.Alike.refl U.vm) q11), (jK6.moved (Vm.Alike.refl U.vm) q12), q13, q14, q15, q16, q17, q18⟩, hh_85.recv (C := RX5) (T := TX5) (N := 11) hB7 rfl (by decide) hg_kernel_78 hK, fun U hU hW => ⟨rfl, hU, hh_85.2.1, hG.step hW hU hh_85.1, va_K.moved hW.alike hK2, jK5.moved hW.alike hK5, jK6.moved hW.alike hK6, hg_kernel_78, hg_ret_84, hgq_43_0, jP.nil, (hh_85.2.2.2.2.2.2.2.2.sub (L1 := [(jFs11, jSef dC dI G_43)]) [2] rfl), ⟨(by first | (with_reducible assumption) | omega | rfl | fail), (by first | (with_reducible assumption) | omega | rfl | fail)⟩⟩⟩ rfl rfl hl.1 rfl (lv_room (Nat.le_of_ble_eq_true rfl)) dX11_advance_120 ⟨by rw [hRc]; omega, by rw [hRs]; omega⟩) hh_85.1 (fun q _ h => h) (fun q h => h) (fun r_88 u_87 t_87 H_87 locs_87 ht_87 hvm_87 hr_88 hb_87 hz_87 hk_87 hS_87 => ?_)
                  rw [ht_87] at hb_87
                  obtain ⟨G_87, rfl⟩ : ∃ z, z = u_87 := ⟨_, rfl⟩
                  try simp only at hb_87
                  obtain ⟨⟨hb_871, hb_872, hb_873, hb_874, hb_875, hb_876⟩, hN_87, hbE_87⟩ := hb_87
                  have hh_87 : jSt (dC, dI) B base G0 G_87 EX11_advance s.heap ((0 + (1)) + (23)) ((0 + ((jSo fe_35 (pk_35.toInt : Int) - jSo fb_35 (pk_35.toInt : Int)).toNat)) + ((183 + 336 * 1))) [(kernel_78, 7, 2, .ref start_81), (r0, 13, 5, .ref kernel_78), (ret_14, 3, 12, .null), (ret_14, 3, 13, .int z_66), (ret_14, 3, 11, .ref qc_43), (ret_14, 3, 4, .int ps_35), (ret_14, 3, 10, .int pk_35), (ret_14, 3, 5, .ref yb_35), (ret_14, 3, 6, .ref ye_35), (r0, 13, 10, .ref hands_4), (r0, 13, 4, .ref bo), (bo, 2, 1, .int pc), (bo, 2, 0, .ref pa), (r0, 13, 3, .ref ou)] [(yb_35, 171, 40, ca 1, fb_35), (ye_35, 172, 40, ca 1, fe_35)] [(jFl, jLs dC dI ca G_43 3 none wl), (jFdo, jDcc dC dI ca G_43 (some ret_14) pho_35), (jFy, jYb dC dI G_43), ([(212, 0)], jQc dC dI (ca 5) hands_4 2 fq_28), ([(2, 0), (2, 1)], jOl (dC, dI) G0 2 [bo, ou] s.heap)] H_87 locs_87 := (hh_85.callG hb_871 hb_872 hb_873 hb_874 hb_875 hS_87 rfl (L1 := [(kernel_78, 7, 2, .ref start_81), (r0, 13, 5, .ref kernel_78), (ret_14, 3, 12, .null), (ret_14, 3, 13, .int z_66), (ret_14, 3, 11, .ref qc_43), (ret_14, 3, 4, .int ps_35), (ret_14, 3, 10, .int pk_35), (ret_14, 3, 5, .ref yb_35), (ret_14, 3, 6, .ref ye_35), (r0, 13, 10, .ref hands_4), (r0, 13, 4, .ref bo), (bo, 2, 1, .int pc), (bo, 2, 0, .ref pa), (r0, 13, 3, .ref ou)]) [0, 1, 2, 3, 4, 5, 6, 7, 8, 9, 10, 11, 12, 13] rfl rfl (M1 := [(yb_35, 171, 40, ca 1, fb_35), (ye_35, 172, 40, ca 1, fe_35)]) [0, 1] rfl rfl (I1 := [(jFl, jLs dC dI ca G_43 3 none wl), (jFdo, jDcc dC dI ca G_43 (some ret_14) pho_35), (jFy, jYb dC dI G_43), ([(212, 0)], jQc dC dI (ca 5) hands_4 2 fq_28), ([(2, 0), (2, 1)], jOl (dC, dI) G0 2 [bo, ou] s.heap)]) [0, 1, 3, 4, 5] rfl rfl).more hb_876
                  have hNn_87 : (jNk [0, 1, 2, 3, 4, 6, 7, 8, 9, 10, 12, 13, 14, 15, 16]) G0 G_87 := (hNn_43).tr hN_87
                  have hg_89 := hb_872 _ _ hg_el_61
                  have hg_90 := hb_872 _ _ hg_45
                  have hg_91 := hb_872 _ _ hg_start_81
                  have hg_92 := hb_872 _ _ hg_kernel_78
                  have hg_93 := hb_872 _ _ hgq_43_0
                  have hg_94 := hb_872 _ _ hg_46
                  have hg_95 := hb_872 _ _ hg_47
                  have hg_96 := hb_872 _ _ hg_48
                  have hg_97 := hb_872 _ _ hg_49
                  have hg_98 := hb_872 _ _ hg_50
                  have hg_99 := hb_872 _ _ hg_51
                  have hd_100 := jLs.grow (hh_87.iv 0 rfl) hb_872 hN_87 (by decide)
                  have hh_101 := hh_87.sub (L1 := [(kernel_78, 7, 2, .ref start_81), (r0, 13, 5, .ref kernel_78), (ret_14, 3, 12, .null), (ret_14, 3, 13, .int z_66), (ret_14, 3, 11, .ref qc_43), (ret_14, 3, 4, .int ps_35), (ret_14, 3, 10, .int pk_35), (ret_14, 3, 5, .ref yb_35), (ret_14, 3, 6, .ref ye_35), (r0, 13, 10, .ref hands_4), (r0, 13, 4, .ref bo), (bo, 2, 1, .int pc), (bo, 2, 0, .ref pa), (r0, 13, 3, .ref ou)]) [0, 1, 2, 3, 4, 5, 6, 7, 8, 9, 10, 11, 12, 13] rfl (M1 := [(yb_35, 171, 40, ca 1, fb_35), (ye_35, 172, 40, ca 1, fe_35)]) [0, 1] rfl (I1 := [(jFdo, jDcc dC dI ca G_43 (some ret_14) pho_35), (jFy, jYb dC dI G_43), ([(212, 0)], jQc dC dI (ca 5) hands_4 2 fq_28), ([(2, 0), (2, 1)], jOl (dC, dI) G0 2 [bo, ou] s.heap)]) [1, 2, 3, 4] rfl
                  clear hh_87
                  have hh_102 := hh_101.addI (jLs.ie hd_100)
                  clear hh_101
                  have hd_103 := jDcc.grow (hh_102.iv 1 rfl) hb_872 hN_87 (by decide)
                  have hh_104 := hh_102.sub (L1 := [(kernel_78, 7, 2, .ref start_81), (r0, 13, 5, .ref kernel_78), (ret_14, 3, 12, .null), (ret_14, 3, 13, .int z_66), (ret_14, 3, 11, .ref qc_43), (ret_14, 3, 4, .int ps_35), (ret_14, 3, 10, .int pk_35), (ret_14, 3, 5, .ref yb_35), (ret_14, 3, 6, .ref ye_35), (r0, 13, 10, .ref hands_4), (r0, 13, 4, .ref bo), (bo, 2, 1, .int pc), (bo, 2, 0, .ref pa), (r0, 13, 3, .ref ou)]) [0, 1, 2, 3, 4, 5, 6, 7, 8, 9, 10, 11, 12, 13] rfl (M1 := [(yb_35, 171, 40, ca 1, fb_35), (ye_35, 172, 40, ca 1, fe_35)]) [0, 1] rfl (I1 := [(jFl, jLs dC dI ca G_87 3 none wl), (jFy, jYb dC dI G_43), ([(212, 0)], jQc dC dI (ca 5) hands_4 2 fq_28), ([(2, 0), (2, 1)], jOl (dC, dI) G0 2 [bo, ou] s.heap)]) [0, 2, 3, 4] rfl
                  clear hh_102
                  have hh_105 := hh_104.addI (jDcc.ie hd_103)
                  clear hh_104
                  have hd_106 := jYb.grow (hh_105.iv 2 rfl) hb_872 hN_87 (by decide)
                  have hh_107 := hh_105.sub (L1 := [(kernel_78, 7, 2, .ref start_81), (r0, 13, 5, .ref kernel_78), (ret_14, 3, 12, .null), (ret_14, 3, 13, .int z_66), (ret_14, 3, 11, .ref qc_43), (ret_14, 3, 4, .int ps_35), (ret_14, 3, 10, .int pk_35), (ret_14, 3, 5, .ref yb_35), (ret_14, 3, 6, .ref ye_35), (r0, 13, 10, .ref hands_4), (r0, 13, 4, .ref bo), (bo, 2, 1, .int pc), (bo, 2, 0, .ref pa), (r0, 13, 3, .ref ou)]) [0, 1, 2, 3, 4, 5, 6, 7, 8, 9, 10, 11, 12, 13] rfl (M1 := [(yb_35, 171, 40, ca 1, fb_35), (ye_35, 172, 40, ca 1, fe_35)]) [0, 1] rfl (I1 := [(jFdo, jDcc dC dI ca G_87 (some ret_14) pho_35), (jFl, jLs dC dI ca G_87 3 none wl), ([(212, 0)], jQc dC dI (ca 5) hands_4 2 fq_28), ([(2, 0), (2, 1)], jOl (dC, dI) G0 2 [bo, ou] s.heap)]) [0, 1, 3, 4] rfl
                  clear hh_105
                  have hh_108 := hh_107.addI (jYb.ie hd_106)
                  clear hh_107
                  have hh_110 := hh_108.addIs hbE_87
                  obtain ⟨hr_88, hr_88p⟩ := hr_88
                  try simp only at hr_88p
                  obtain ⟨ret_111, rfl, hg_ret_111⟩ := hr_88
                  refine lv_astore_n (lv' := [(3, .ref ret_111), (2, .ref ret_14), (0, .ref r0), (1, .int a1)]) hx hb dX11_advance_123 rfl hl (by decide) rfl (fun ls hl => ?_)
                  refine lv_aload_n hx hb dX11_advance_124 rfl (lv_at hl 1 rfl) ?_
                  refine lv_aload_n hx hb dX11_advance_125 rfl (lv_at hl 0 rfl) ?_
                  have hsz_112 := hh_110.2.2.2.2.2.1
                  have htt_112 := hh_110.2.2.2.2.2.2.1
                  refine W.room (fun hrc_112 hrs_112 => ?_)
                  refine va_callv (A0 := jA base) (H0 := s.heap) (va_runV (As := [.ref ret_111]) (rest := []) ⟨hx, hb, hml, hown, hts⟩ (uX1_addCheckedE l dC dI ca base B hB hAp hB3 hB11 hB210 G_87 H_87 ret_14 ret_111 yb_35 ye_35 ps_35 pk_35 (pho_35)) (cwV 1 hts (jgV (jWr_89 _ (List.mem_of_getElem? (i := 4) rfl)) (jWr_89 _ (List.mem_of_getElem? (i := 5) rfl)) (jWr_89 _ (List.mem_of_getElem? (i := 6) rfl)) (jWr_2 _ (List.mem_of_getElem? (i := 21) rfl)) (jWr_89 _ (List.mem_of_getElem? (i := 7) rfl))) rfl rfl rfl (by decide +kernel) ⟨by rw [← hR]; exact Nat.le_of_ble_eq_true rfl, by rw [← hR]; exact Nat.le_of_ble_eq_true rfl⟩) ⟨fun a U g mk q => by obtain ⟨q0, q1, q2, qK, q10, q11, q12, q13, q14, q15, q16, q17⟩ := q; exact ⟨q0, q1, q2, jG.calling g mk a qK, (va_K.moved (Vm.Alike.refl U.vm) q10), q11, q12, q13, q14, q15, q16, q17⟩, hh_110.recv (C := RX1) (T := TX1) (N := 17) hB3 rfl (by decide) hg_89 hK, fun U hU hW => ⟨rfl, hU, hh_110.2.1, hG.step hW hU hh_110.1, va_K.moved hW.alike hK2, hg_89, hg_ret_111, hg_94, hg_95, (hh_110.2.2.1.sub (L1 := [(ret_14, 3, 5, .ref yb_35), (ret_14, 3, 6, .ref ye_35), (ret_14, 3, 4, .int ps_35), (ret_14, 3, 10, .int pk_35)]) [7, 8, 5, 6] rfl), (hh_110.2.2.2.2.2.2.2.2.sub (L1 := [(jFdo, jDcc dC dI ca G_87 (some ret_14) pho_35)]) [2] rfl), ⟨(by first | (with_reducible assumption) | omega | rfl | fail), (by first | (with_reducible assumption) | omega | rfl | fail), (by first | (with_reducible assumption) | omega | rfl | fail), (by first | (with_reducible assumption) | omega | rfl | fail)⟩⟩⟩ rfl rfl hl.1 rfl (lv_room (Nat.le_of_ble_eq_true rfl)) dX11_advance_126 ⟨by rw [hRc]; show _ + 0 ≤ _; omega, by rw [hRs]; show _ + 0 ≤ _; omega⟩) hh_110.1 (fun q _ h => h) (fun q h => h) (fun u_112 t_112 H_112 locs_112 ht_112 hvm_112 hr_113 hb_112 hz_112 hk_112 hS_112 => ?_)
                  obtain ⟨qk_112, rfl⟩ : ∃ z, z = u_112 := ⟨_, rfl⟩
                  rw [ht_112] at hb_112
                  obtain ⟨hb_112, hbE_112⟩ := hb_112
                  obtain ⟨hb_112, hbO_112⟩ := hb_112
                  obtain ⟨hb_1121, hb_1122, hb_1123, hb_1124, hb_1125⟩ := hb_112
                  have hh_112 : jSt (dC, dI) B base G0 G_87 EX11_advance s.heap ((0 + (1)) + (23)) ((0 + ((jSo fe_35 (pk_35.toInt : Int) - jSo fb_35 (pk_35.toInt : Int)).toNat)) + ((183 + 336 * 1))) [(ret_14, 3, 10, .int qk_112), (kernel_78, 7, 2, .ref start_81), (r0, 13, 5, .ref kernel_78), (ret_14, 3, 12, .null), (ret_14, 3, 13, .int z_66), (ret_14, 3, 11, .ref qc_43), (ret_14, 3, 4, .int ps_35), (ret_14, 3, 5, .ref yb_35), (ret_14, 3, 6, .ref ye_35), (r0, 13, 10, .ref hands_4), (r0, 13, 4, .ref bo), (bo, 2, 1, .int pc), (bo, 2, 0, .ref pa), (r0, 13, 3, .ref ou)] [(yb_35, 171, 40, ca 1, fb_35), (ye_35, 172, 40, ca 1, fe_35)] [(jFdo, jDcc dC dI ca G_87 (some ret_14) pho_35), (jFs11, jSef dC dI G_87), (jFy, jYb dC dI G_87), (jFl, jLs dC dI ca G_87 3 none wl), ([(212, 0)], jQc dC dI (ca 5) hands_4 2 fq_28), ([(2, 0), (2, 1)], jOl (dC, dI) G0 2 [bo, ou] s.heap)] H_112 locs_112 := (((hh_110.call hb_1121 hb_1122 hb_1123 hb_1124 hS_112 rfl (L1 := [(kernel_78, 7, 2, .ref start_81), (r0, 13, 5, .ref kernel_78), (ret_14, 3, 12, .null), (ret_14, 3, 13, .int z_66), (ret_14, 3, 11, .ref qc_43), (ret_14, 3, 4, .int ps_35), (ret_14, 3, 5, .ref yb_35), (ret_14, 3, 6, .ref ye_35), (r0, 13, 10, .ref hands_4), (r0, 13, 4, .ref bo), (bo, 2, 1, .int pc), (bo, 2, 0, .ref pa), (r0, 13, 3, .ref ou)]) [0, 1, 2, 3, 4, 5, 7, 8, 9, 10, 11, 12, 13] rfl rfl (M1 := [(yb_35, 171, 40, ca 1, fb_35), (ye_35, 172, 40, ca 1, fe_35)]) [0, 1] rfl rfl (I1 := [(jFs11, jSef dC dI G_87), (jFy, jYb dC dI G_87), (jFl, jLs dC dI ca G_87 3 none wl), ([(212, 0)], jQc dC dI (ca 5) hands_4 2 fq_28), ([(2, 0), (2, 1)], jOl (dC, dI) G0 2 [bo, ou] s.heap)]) [0, 1, 3, 4, 5] rfl rfl).more hb_1125)).addIs hbE_112
                  clear hh_110 ht_112 hvm_112 hz_112 hk_112 hS_112 hb_1121 hb_1122 hb_1123 hb_1124 hb_1125
                  clear  hbE_112
                  refine lv_aload_n hx hb dX11_advance_129 rfl (lv_at hl 2 rfl) ?_
                  refine lv_aload_n hx hb dX11_advance_130 rfl (lv_at hl 0 rfl) ?_
                  have hsz_114 := hh_112.2.2.2.2.2.1
                  have htt_114 := hh_112.2.2.2.2.2.2.1
                  refine W.room (fun hrc_114 hrs_114 => ?_)
                  refine va_callv (A0 := jA base) (H0 := s.heap) (va_runV (As := [.ref ret_111]) (rest := []) ⟨hx, hb, hml, hown, hts⟩ (uX11_remember l dC dI ca base B hB hAp hB1 hB11 hB13 hB101 hB223 G_87 H_112 r0 ret_111 wl LC LS) (cwV 1 hts (jgV (jWr_89 _ (List.mem_of_getElem? (i := 8) rfl)) (jWr_89 _ (List.mem_of_getElem? (i := 9) rfl)) (jWr_89 _ (List.mem_of_getElem? (i := 10) rfl)) (jWr_1 _ (List.mem_of_getElem? (i := 2) rfl)) (jWr_89 _ (List.mem_of_getElem? (i := 11) rfl))) rfl rfl rfl (by decide +kernel) ⟨by rw [← hR]; exact Nat.le_of_ble_eq_true rfl, by rw [← hR]; exact Nat.le_of_ble_eq_true rfl⟩) ⟨fun a U g mk q => by obtain ⟨q0, q1, q2, qK, q10, q11, q12, q13, q14, q15⟩ := q; exact ⟨q0, q1, q2, jG.calling g mk a qK, (jK7.calling g mk a q10), q11, q12, q13, q14, q15⟩, hh_112.recv (C := RX11) (T := TX11) (N := 19) hB13 rfl (by decide) hg_90 hK, fun U hU hW => ⟨rfl, hU, hh_112.2.1, hG.step hW hU hh_112.1, (hK7.step hW hU hh_112.1), hg_90, hg_ret_111, jP.nil, (hh_112.2.2.2.2.2.2.2.2.sub (L1 := [(jFl, jLs dC dI ca G_87 3 none wl)]) [3] rfl), (by omega), (by omega), trivial⟩⟩ rfl rfl hl.1 rfl (lv_room (Nat.le_of_ble_eq_true rfl)) dX11_advance_131 ⟨by rw [hRc]; omega, by rw [hRs]; omega⟩) hh_112.1 (fun q _ h => h) (fun q h => h) (fun u_114 t_114 H_114 locs_114 ht_114 hvm_114 hr_115 hb_114 hz_114 hk_114 hS_114 => ?_)
                  rw [ht_114] at hb_114
                  obtain ⟨G_114, rfl⟩ : ∃ z, z = u_114 := ⟨_, rfl⟩
                  try simp only at hb_114
                  obtain ⟨⟨hb_1141, hb_1142, hb_1143, hb_1144, hb_1145, hb_1146⟩, hN_114, hbE_114⟩ := hb_114
                  have hM_114 := hN_114
                  have hN_114 : (jNk [0, 1, 2, 3, 4, 6, 7, 8, 9, 10, 12, 13, 14, 15, 16]) G_87 G_114 := hN_114.sub (by decide)
                  have hh_114 : jSt (dC, dI) B base G0 G_114 EX11_advance s.heap (((0 + (1)) + (23)) + (1)) (((0 + ((jSo fe_35 (pk_35.toInt : Int) - jSo fb_35 (pk_35.toInt : Int)).toNat)) + ((183 + 336 * 1))) + (40)) [(ret_14, 3, 10, .int qk_112), (kernel_78, 7, 2, .ref start_81), (r0, 13, 5, .ref kernel_78), (ret_14, 3, 12, .null), (ret_14, 3, 13, .int z_66), (ret_14, 3, 11, .ref qc_43), (ret_14, 3, 4, .int ps_35), (ret_14, 3, 5, .ref yb_35), (ret_14, 3, 6, .ref ye_35), (r0, 13, 10, .ref hands_4), (r0, 13, 4, .ref bo), (bo, 2, 1, .int pc), (bo, 2, 0, .ref pa), (r0, 13, 3, .ref ou)] [(yb_35, 171, 40, ca 1, fb_35), (ye_35, 172, 40, ca 1, fe_35)] [(jFdo, jDcc dC dI ca G_87 (some ret_14) pho_35), (jFs11, jSef dC dI G_87), (jFy, jYb dC dI G_87), ([(212, 0)], jQc dC dI (ca 5) hands_4 2 fq_28), ([(2, 0), (2, 1)], jOl (dC, dI) G0 2 [bo, ou] s.heap)] H_114 locs_114 := (hh_112.callG hb_1141 hb_1142 hb_1143 hb_1144 hb_1145 hS_114 rfl (L1 := [(ret_14, 3, 10, .int qk_112), (kernel_78, 7, 2, .ref start_81), (r0, 13, 5, .ref kernel_78), (ret_14, 3, 12, .null), (ret_14, 3, 13, .int z_66), (ret_14, 3, 11, .ref qc_43), (ret_14, 3, 4, .int ps_35), (ret_14, 3, 5, .ref yb_35), (ret_14, 3, 6, .ref ye_35), (r0, 13, 10, .ref hands_4), (r0, 13, 4, .ref bo), (bo, 2, 1, .int pc), (bo, 2, 0, .ref pa), (r0, 13, 3, .ref ou)]) [0, 1, 2, 3, 4, 5, 6, 7, 8, 9, 10, 11, 12, 13] rfl rfl (M1 := [(yb_35, 171, 40, ca 1, fb_35), (ye_35, 172, 40, ca 1, fe_35)]) [0, 1] rfl rfl (I1 := [(jFdo, jDcc dC dI ca G_87 (some ret_14) pho_35), (jFs11, jSef dC dI G_87), (jFy, jYb dC dI G_87), ([(212, 0)], jQc dC dI (ca 5) hands_4 2 fq_28), ([(2, 0), (2, 1)], jOl (dC, dI) G0 2 [bo, ou] s.heap)]) [0, 1, 2, 4, 5] rfl rfl).more hb_1146
                  have hNn_114 : (jNk [0, 1, 2, 3, 4, 6, 7, 8, 9, 10, 12, 13, 14, 15, 16]) G0 G_114 := (hNn_87).tr hN_114
                  have hg_116 := hb_1142 _ _ hg_ret_111
                  have hg_117 := hb_1142 _ _ hg_89
                  have hg_118 := hb_1142 _ _ hg_90
                  have hg_119 := hb_1142 _ _ hg_91
                  have hg_120 := hb_1142 _ _ hg_92
                  have hg_121 := hb_1142 _ _ hg_93
                  have hg_122 := hb_1142 _ _ hg_94
                  have hg_123 := hb_1142 _ _ hg_95
                  have hg_124 := hb_1142 _ _ hg_96
                  have hg_125 := hb_1142 _ _ hg_97
                  have hg_126 := hb_1142 _ _ hg_98
                  have hg_127 := hb_1142 _ _ hg_99
                  have hd_128 := jDcc.grow (hh_114.iv 0 rfl) hb_1142 hN_114 (by decide)
                  have hh_129 := hh_114.sub (L1 := [(ret_14, 3, 10, .int qk_112), (kernel_78, 7, 2, .ref start_81), (r0, 13, 5, .ref kernel_78), (ret_14, 3, 12, .null), (ret_14, 3, 13, .int z_66), (ret_14, 3, 11, .ref qc_43), (ret_14, 3, 4, .int ps_35), (ret_14, 3, 5, .ref yb_35), (ret_14, 3, 6, .ref ye_35), (r0, 13, 10, .ref hands_4), (r0, 13, 4, .ref bo), (bo, 2, 1, .int pc), (bo, 2, 0, .ref pa), (r0, 13, 3, .ref ou)]) [0, 1, 2, 3, 4, 5, 6, 7, 8, 9, 10, 11, 12, 13] rfl (M1 := [(yb_35, 171, 40, ca 1, fb_35), (ye_35, 172, 40, ca 1, fe_35)]) [0, 1] rfl (I1 := [(jFs11, jSef dC dI G_87), (jFy, jYb dC dI G_87), ([(212, 0)], jQc dC dI (ca 5) hands_4 2 fq_28), ([(2, 0), (2, 1)], jOl (dC, dI) G0 2 [bo, ou] s.heap)]) [1, 2, 3, 4] rfl
                  clear hh_114
                  have hh_130 := hh_129.addI (jDcc.ie hd_128)
                  clear hh_129
                  have hd_131 := jSef.grow (hh_130.iv 1 rfl) hb_1142 hM_114 (by decide)
                  have hh_132 := hh_130.sub (L1 := [(ret_14, 3, 10, .int qk_112), (kernel_78, 7, 2, .ref start_81), (r0, 13, 5, .ref kernel_78), (ret_14, 3, 12, .null), (ret_14, 3, 13, .int z_66), (ret_14, 3, 11, .ref qc_43), (ret_14, 3, 4, .int ps_35), (ret_14, 3, 5, .ref yb_35), (ret_14, 3, 6, .ref ye_35), (r0, 13, 10, .ref hands_4), (r0, 13, 4, .ref bo), (bo, 2, 1, .int pc), (bo, 2, 0, .ref pa), (r0, 13, 3, .ref ou)]) [0, 1, 2, 3, 4, 5, 6, 7, 8, 9, 10, 11, 12, 13] rfl (M1 := [(yb_35, 171, 40, ca 1, fb_35), (ye_35, 172, 40, ca 1, fe_35)]) [0, 1] rfl (I1 := [(jFdo, jDcc dC dI ca G_114 (some ret_14) pho_35), (jFy, jYb dC dI G_87), ([(212, 0)], jQc dC dI (ca 5) hands_4 2 fq_28), ([(2, 0), (2, 1)], jOl (dC, dI) G0 2 [bo, ou] s.heap)]) [0, 2, 3, 4] rfl
                  clear hh_130
                  have hh_133 := hh_132.addI (jSef.ie hd_131)
                  clear hh_132
                  have hd_134 := jYb.grow (hh_133.iv 2 rfl) hb_1142 hN_114 (by decide)
                  have hh_135 := hh_133.sub (L1 := [(ret_14, 3, 10, .int qk_112), (kernel_78, 7, 2, .ref start_81), (r0, 13, 5, .ref kernel_78), (ret_14, 3, 12, .null), (ret_14, 3, 13, .int z_66), (ret_14, 3, 11, .ref qc_43), (ret_14, 3, 4, .int ps_35), (ret_14, 3, 5, .ref yb_35), (ret_14, 3, 6, .ref ye_35), (r0, 13, 10, .ref hands_4), (r0, 13, 4, .ref bo), (bo, 2, 1, .int pc), (bo, 2, 0, .ref pa), (r0, 13, 3, .ref ou)]) [0, 1, 2, 3, 4, 5, 6, 7, 8, 9, 10, 11, 12, 13] rfl (M1 := [(yb_35, 171, 40, ca 1, fb_35), (ye_35, 172, 40, ca 1, fe_35)]) [0, 1] rfl (I1 := [(jFs11, jSef dC dI G_114), (jFdo, jDcc dC dI ca G_114 (some ret_14) pho_35), ([(212, 0)], jQc dC dI (ca 5) hands_4 2 fq_28), ([(2, 0), (2, 1)], jOl (dC, dI) G0 2 [bo, ou] s.heap)]) [0, 1, 3, 4] rfl
                  clear hh_133
                  have hh_136 := hh_135.addI (jYb.ie hd_134)
                  clear hh_135
                  have hh_138 := hh_136.addIs hbE_114
                  try simp only at hr_115
                  refine lv_aload_n hx hb dX11_advance_134 rfl (lv_at hl 2 rfl) ?_
                  refine lv_aload_n hx hb dX11_advance_135 rfl (lv_at hl 1 rfl) ?_
                  have hsz_139 := hh_138.2.2.2.2.2.1
                  have htt_139 := hh_138.2.2.2.2.2.2.1
                  refine W.room (fun hrc_139 hrs_139 => ?_)
                  refine va_callv (A0 := jA base) (H0 := s.heap) (va_runV (As := [.ref ret_14]) (rest := []) ⟨hx, hb, hml, hown, hts⟩ (uX11_releaseE l dC dI ca base B hB hAp hB3 hB11 hB13 hB101 hB212 G_114 H_114 r0 ret_14 yb_35 ye_35 (pho_35)) (cwV 1 hts (jgV (jWr_43 _ (List.mem_of_getElem? (i := 3) rfl)) (jWr_43 _ (List.mem_of_getElem? (i := 4) rfl)) (jWr_43 _ (List.mem_of_getElem? (i := 5) rfl)) (jWr_1 _ (List.mem_of_getElem? (i := 2) rfl)) (jWr_43 _ (List.mem_of_getElem? (i := 6) rfl))) rfl rfl rfl (by decide +kernel) ⟨by rw [← hR]; exact Nat.le_of_ble_eq_true rfl, by rw [← hR]; exact Nat.le_of_ble_eq_true rfl⟩) ⟨fun a U g mk q => by obtain ⟨q0, q1, q2, qK, q10, q11, q12, q13, q14, q15, q16, q17⟩ := q; exact ⟨q0, q1, q2, jG.calling g mk a qK, (va_K.moved (Vm.Alike.refl U.vm) q10), q11, q12, q13, q14, q15, q16, q17⟩, hh_138.recv (C := RX11) (T := TX11) (N := 19) hB13 rfl (by decide) hg_118 hK, fun U hU hW => ⟨rfl, hU, hh_138.2.1, hG.step hW hU hh_138.1, va_K.moved hW.alike hK2, hg_118, hg_117, hg_122, hg_123, (hh_138.2.2.1.sub (L1 := [(ret_14, 3, 5, .ref yb_35), (ret_14, 3, 6, .ref ye_35)]) [7, 8] rfl), (hh_138.2.2.2.2.2.2.2.2.sub (L1 := [(jFdo, jDcc dC dI ca G_114 (some ret_14) pho_35)]) [3] rfl), trivial⟩⟩ rfl rfl hl.1 rfl (lv_room (Nat.le_of_ble_eq_true rfl)) dX11_advance_136 ⟨by rw [hRc]; show _ + 0 ≤ _; omega, by rw [hRs]; show _ + 0 ≤ _; omega⟩) hh_138.1 (fun q _ h => h) (fun q h => h) (fun u_139 t_139 H_139 locs_139 ht_139 hvm_139 hr_140 hb_139 hz_139 hk_139 hS_139 => ?_)
                  rw [ht_139] at hb_139
                  obtain ⟨hb_139, hbE_139⟩ := hb_139
                  obtain ⟨hb_1391, hb_1392, hb_1393, hb_1394, hb_1395⟩ := hb_139
                  have hh_139 : jSt (dC, dI) B base G0 G_114 EX11_advance s.heap (((0 + (1)) + (23)) + (1)) (((0 + ((jSo fe_35 (pk_35.toInt : Int) - jSo fb_35 (pk_35.toInt : Int)).toNat)) + ((183 + 336 * 1))) + (40)) [(ret_14, 3, 11, .null), (ret_14, 3, 10, .int qk_112), (kernel_78, 7, 2, .ref start_81), (r0, 13, 5, .ref kernel_78), (ret_14, 3, 4, .int ps_35), (ret_14, 3, 5, .ref yb_35), (ret_14, 3, 6, .ref ye_35), (r0, 13, 10, .ref hands_4), (r0, 13, 4, .ref bo), (bo, 2, 1, .int pc), (bo, 2, 0, .ref pa), (r0, 13, 3, .ref ou)] [(yb_35, 171, 40, ca 1, fb_35), (ye_35, 172, 40, ca 1, fe_35)] [(jFdo, jDcc dC dI ca G_114 (some ret_14) pho_35), (jFl, jLs dC dI ca G_114 3 none wl), (jFy, jYb dC dI G_114), (jFs11, jSef dC dI G_114), ([(2, 0), (2, 1)], jOl (dC, dI) G0 2 [bo, ou] s.heap)] H_139 locs_139 := (((hh_138.call hb_1391 hb_1392 hb_1393 hb_1394 hS_139 rfl (L1 := [(ret_14, 3, 10, .int qk_112), (kernel_78, 7, 2, .ref start_81), (r0, 13, 5, .ref kernel_78), (ret_14, 3, 4, .int ps_35), (ret_14, 3, 5, .ref yb_35), (ret_14, 3, 6, .ref ye_35), (r0, 13, 10, .ref hands_4), (r0, 13, 4, .ref bo), (bo, 2, 1, .int pc), (bo, 2, 0, .ref pa), (r0, 13, 3, .ref ou)]) [0, 1, 2, 6, 7, 8, 9, 10, 11, 12, 13] rfl rfl (M1 := [(yb_35, 171, 40, ca 1, fb_35), (ye_35, 172, 40, ca 1, fe_35)]) [0, 1] rfl rfl (I1 := [(jFl, jLs dC dI ca G_114 3 none wl), (jFy, jYb dC dI G_114), (jFs11, jSef dC dI G_114), ([(2, 0), (2, 1)], jOl (dC, dI) G0 2 [bo, ou] s.heap)]) [0, 1, 2, 5] rfl rfl).more hb_1395)).addIs hbE_139
                  clear hh_138 ht_139 hvm_139 hz_139 hk_139 hS_139 hb_1391 hb_1392 hb_1393 hb_1394 hb_1395
                  clear  hbE_139
                  have hqe_141 : qk_112.toInt = pk_35.toInt + 1 → jEd fe_35 qk_112.toInt = jSo fe_35 pk_35.toInt := fun h9 => by rw [h9]; exact hnx_35.2.2.1
                  obtain ⟨phn_141, hphn_141⟩ : ∃ q : Nat, q = pho_35 + (575 * (ps_35.toInt - qk_112.toInt) + (1500 - jEd fe_35 qk_112.toInt)).toNat := ⟨_, rfl⟩
                  have hF_141 := jDcc.full (ph1 := phn_141) (hh_139.iv 0 rfl) hg_117 (hh_139.at 5 rfl) (hh_139.at 6 rfl) ⟨(hh_139.2.2.1.sub (L1 := [(ret_14, 3, 4, .int ps_35), (ret_14, 3, 10, .int qk_112), (ret_14, 3, 11, .null)]) [4, 1, 0] rfl), (hh_139.2.2.2.2.2.2.2.1.sub (L1 := [(yb_35, 171, 40, ca 1, fb_35), (ye_35, 172, 40, ca 1, fe_35)]) [0, 1] rfl), hsn_35, by omega⟩ (w := (575 * (ps_35.toInt - qk_112.toInt) + (1500 - jEd fe_35 qk_112.toInt)).toNat) (fun _ => jPo.mkN (by omega)) (by omega) (fun _ => by omega)
                  have hh_142 := hh_139.sub (L1 := [(ret_14, 3, 11, .null), (ret_14, 3, 10, .int qk_112), (kernel_78, 7, 2, .ref start_81), (r0, 13, 5, .ref kernel_78), (ret_14, 3, 4, .int ps_35), (ret_14, 3, 5, .ref yb_35), (ret_14, 3, 6, .ref ye_35), (r0, 13, 10, .ref hands_4), (r0, 13, 4, .ref bo), (bo, 2, 1, .int pc), (bo, 2, 0, .ref pa), (r0, 13, 3, .ref ou)]) [0, 1, 2, 3, 4, 5, 6, 7, 8, 9, 10, 11] rfl (M1 := [(yb_35, 171, 40, ca 1, fb_35), (ye_35, 172, 40, ca 1, fe_35)]) [0, 1] rfl (I1 := [(jFl, jLs dC dI ca G_114 3 none wl), (jFy, jYb dC dI G_114), (jFs11, jSef dC dI G_114), ([(2, 0), (2, 1)], jOl (dC, dI) G0 2 [bo, ou] s.heap)]) [1, 2, 3, 4] rfl
                  clear hh_139
                  have hh_143 := hh_142.addI (jDcc.ie hF_141)
                  clear hh_142
                  refine lv_aload_n hx hb dX11_advance_139 rfl (lv_at hl 1 rfl) ?_
                  refine j7_read hx hb hown hK (C := RX1) (T := TX1) (N := 17) rfl hly_3_10 hlk_171 (hh_143.at 1 rfl) dX11_advance_140 ?_
                  refine lv_aload_n hx hb dX11_advance_143 rfl (lv_at hl 1 rfl) ?_
                  refine j7_read hx hb hown hK (C := RX1) (T := TX1) (N := 17) rfl hly_3_4 hlk_168 (hh_143.at 4 rfl) dX11_advance_144 ?_
                  refine lv_icmp_ne (tgt := 156) hx hb dX11_advance_147 (by decide) (fun c_144 => ?_) (fun c_144 => ?_)
                  · skip
                    have c_144' : qk_112.toInt ≠ ps_35.toInt := jb_ne (rfl) (rfl) c_144
                    refine lv_aload_n hx hb dX11_advance_156 rfl (lv_at hl 2 rfl) ?_
                    have hsz_145 := hh_143.2.2.2.2.2.1
                    have htt_145 := hh_143.2.2.2.2.2.2.1
                    refine W.room (fun hrc_145 hrs_145 => ?_)
                    refine va_callv (A0 := jA base) (H0 := s.heap) (va_runV (As := []) (rest := []) ⟨hx, hb, hml, hown, hts⟩ (uX11_answerReady l dC dI ca base B hB hAp hB1 hB2 hB3 hB4 hB5 hB7 hB8 hB9 hB10 hB11 hB13 hB101 hB102 hB132 hB196 hB210 hB214 hB222 hB280 hB286 hB287 hB288 hB313 G_114 H_139 r0 bo pc pa n_pa ou wl LC LS) (cwV 0 hts (jgV (jWr_89 _ (List.mem_of_getElem? (i := 12) rfl)) (jWr_89 _ (List.mem_of_getElem? (i := 13) rfl)) (jWr_89 _ (List.mem_of_getElem? (i := 14) rfl)) (jWr_1 _ (List.mem_of_getElem? (i := 2) rfl)) (jWr_89 _ (List.mem_of_getElem? (i := 15) rfl))) rfl rfl rfl (by decide +kernel) ⟨by rw [← hR]; exact Nat.le_of_ble_eq_true rfl, by rw [← hR]; exact Nat.le_of_ble_eq_true rfl⟩) ⟨fun a U g mk q => by obtain ⟨q0, q1, q2, qK, q10, q11, q12, q13, q14, q15, q16, q17, q18, q19⟩ := q; exact ⟨q0, q1, q2, jG.calling g mk a qK, (va_K.moved (Vm.Alike.refl U.vm) q10), (jK5.moved (Vm.Alike.refl U.vm) q11), (jK7.calling g mk a q12), q13, q14, q15, q16, q17, q18, q19⟩, hh_143.recv (C := RX11) (T := TX11) (N := 19) hB13 rfl (by decide) hg_118 hK, fun U hU hW => ⟨rfl, hU, hh_143.2.1, hG.step hW hU hh_143.1, va_K.moved hW.alike hK2, jK5.moved hW.alike hK5, (hK7.step hW hU hh_143.1), hg_118, hg_125, hg_126, hg_127, (hh_143.2.2.1.sub (L1 := [(r0, 13, 4, .ref bo), (bo, 2, 1, .int pc), (bo, 2, 0, .ref pa), (r0, 13, 3, .ref ou)]) [8, 9, 10, 11] rfl), (hh_143.2.2.2.2.2.2.2.2.sub (L1 := [(jFy, jYb dC dI G_114), (jFs11, jSef dC dI G_114), (jFl, jLs dC dI ca G_114 3 none wl)]) [2, 3, 1] rfl), (by omega), (by omega), ⟨(by first | (with_reducible assumption) | omega | rfl | fail), (by first | (with_reducible assumption) | omega | rfl | fail), (by first | (with_reducible assumption) | omega | rfl | fail), (by first | (with_reducible assumption) | omega | rfl | fail), (by first | assumption | fail | omega)⟩⟩⟩ rfl rfl hl.1 rfl (lv_room (Nat.le_of_ble_eq_true rfl)) dX11_advance_157 ⟨by rw [hRc]; omega, by rw [hRs]; omega⟩) hh_143.1 (fun q _ h => h) (fun q h => h) (fun u_145 t_145 H_145 locs_145 ht_145 hvm_145 hr_146 hb_145 hz_145 hk_145 hS_145 => ?_)
                    obtain ⟨qc_145, qa_145, m_qa_145, G_145⟩ := u_145
                    rw [ht_145] at hb_145
                    simp only at hb_145
                    obtain ⟨⟨hb_1451, hb_1452, hb_1453, hb_1454, hb_1455, hb_1456⟩, hgq_145_0, hN_145, hbO_145, hbE_145⟩ := hb_145
                    have hM_145 := hN_145
                    have hN_145 : (jNk [0, 1, 2, 3, 4, 6, 7, 8, 9, 10, 12, 13, 14, 15, 16]) G_114 G_145 := hN_145.sub (by decide)
                    have hh_145 : jSt (dC, dI) B base G0 G_145 EX11_advance s.heap ((((0 + (1)) + (23)) + (1)) + ((m_qa_145 - n_pa) / 16)) ((((0 + ((jSo fe_35 (pk_35.toInt : Int) - jSo fb_35 (pk_35.toInt : Int)).toNat)) + ((183 + 336 * 1))) + (40)) + (2 * (m_qa_145 - n_pa))) [(bo, 2, 1, .int qc_145), (bo, 2, 0, .ref qa_145), (ret_14, 3, 11, .null), (ret_14, 3, 10, .int qk_112), (kernel_78, 7, 2, .ref start_81), (r0, 13, 5, .ref kernel_78), (ret_14, 3, 4, .int ps_35), (ret_14, 3, 5, .ref yb_35), (ret_14, 3, 6, .ref ye_35), (r0, 13, 10, .ref hands_4), (r0, 13, 4, .ref bo), (r0, 13, 3, .ref ou)] [(yb_35, 171, 40, ca 1, fb_35), (ye_35, 172, 40, ca 1, fe_35)] [(jFdo, jDcc dC dI ca G_114 none phn_141)] H_145 locs_145 := (hh_143.callG hb_1451 hb_1452 hb_1453 hb_1454 hb_1455 hS_145 rfl (L1 := [(ret_14, 3, 11, .null), (ret_14, 3, 10, .int qk_112), (kernel_78, 7, 2, .ref start_81), (r0, 13, 5, .ref kernel_78), (ret_14, 3, 4, .int ps_35), (ret_14, 3, 5, .ref yb_35), (ret_14, 3, 6, .ref ye_35), (r0, 13, 10, .ref hands_4), (r0, 13, 4, .ref bo), (r0, 13, 3, .ref ou)]) [0, 1, 2, 3, 4, 5, 6, 7, 8, 11] rfl rfl (M1 := [(yb_35, 171, 40, ca 1, fb_35), (ye_35, 172, 40, ca 1, fe_35)]) [0, 1] rfl rfl (I1 := [(jFdo, jDcc dC dI ca G_114 none phn_141)]) [0] rfl rfl).more hb_1456
                    have hNn_145 : (jNk [0, 1, 2, 3, 4, 6, 7, 8, 9, 10, 12, 13, 14, 15, 16]) G0 G_145 := (hNn_114).tr hN_145
                    have hg_147 := hb_1452 _ _ hg_116
                    have hg_148 := hb_1452 _ _ hg_117
                    have hg_149 := hb_1452 _ _ hg_118
                    have hg_150 := hb_1452 _ _ hg_119
                    have hg_151 := hb_1452 _ _ hg_120
                    have hg_152 := hb_1452 _ _ hg_122
                    have hg_153 := hb_1452 _ _ hg_123
                    have hg_154 := hb_1452 _ _ hg_124
                    have hg_155 := hb_1452 _ _ hg_125
                    have hg_156 := hb_1452 _ _ hg_127
                    have hd_157 := jDcc.grow (hh_145.iv 0 rfl) hb_1452 hN_145 (by decide)
                    have hh_158 := hh_145.sub (L1 := [(bo, 2, 1, .int qc_145), (bo, 2, 0, .ref qa_145), (ret_14, 3, 11, .null), (ret_14, 3, 10, .int qk_112), (kernel_78, 7, 2, .ref start_81), (r0, 13, 5, .ref kernel_78), (ret_14, 3, 4, .int ps_35), (ret_14, 3, 5, .ref yb_35), (ret_14, 3, 6, .ref ye_35), (r0, 13, 10, .ref hands_4), (r0, 13, 4, .ref bo), (r0, 13, 3, .ref ou)]) [0, 1, 2, 3, 4, 5, 6, 7, 8, 9, 10, 11] rfl (M1 := [(yb_35, 171, 40, ca 1, fb_35), (ye_35, 172, 40, ca 1, fe_35)]) [0, 1] rfl (I1 := []) [] rfl
                    clear hh_145
                    have hh_159 := hh_158.addI (jDcc.ie hd_157)
                    clear hh_158
                    have hh_160 := hh_159.addIs hbE_145
                    have hd_161 := jOl.trL (hh_143.iv 4 rfl) hh_143.2.2.2.2.1 hbO_145 (by simp)
                    have hh_162 := hh_160.addI (jOl.ie (dC := dC) (dI := dI) (G0 := G0) (k := 2) (rs := [bo, ou]) (H0 := s.heap) (F := [(2, 0), (2, 1)]) (C := RX0) (T := TX0) (N := 2) rfl (by decide) hh_160.2.2.2.2.1 (hd_161))
                    clear hh_160
                    try simp only at hr_146
                    obtain ⟨hr_146_0, hr_146_1, hr_146_2, hr_146_3, hr_146_4⟩ := hr_146
                    have hsz_163 := hh_162.2.2.2.2.2.1
                    have htt_163 := hh_162.2.2.2.2.2.2.1
                    refine W.room (fun hrc_163 hrs_163 => ?_)
                    refine W.widen (k := LC - s.heap.size) (n := LS - jTot s.heap) (by omega) (by omega) ?_
                    rw [hQ]
                    exact W.vret hx hb hr (fun t ht hW => ⟨⟨(qc_145, qa_145, m_qa_145, phn_141, G_145), rfl, by (try dsimp only); exact ⟨(by first | (with_reducible assumption) | omega | rfl | fail), (by first | (with_reducible assumption) | omega | rfl | fail), (by first | (with_reducible assumption) | omega | rfl | fail), (by first | (with_reducible assumption) | omega | rfl | fail), (by first | assumption | fail | omega), (by first | (with_reducible assumption) | omega | rfl | fail)⟩, ⟨hh_162.ra (by first | (simp only; omega) | omega) (by first | (simp only; omega) | omega) (M1 := [(bo, 2, 1, .int qc_145), (bo, 2, 0, .ref qa_145)]) [0, 1] rfl ht, hgq_145_0, hNn_145, by rw [ht]; exact hh_162.iv 0 rfl, by rw [ht]; exact hh_162.2.2.2.2.2.2.2.2.sub (L1 := [(jFy, jYb dC dI G_145), (jFs11, jSef dC dI G_145), (jFl, jLs dC dI ca G_145 3 none wl), (jFdo, jDcc dC dI ca G_145 none phn_141)]) [1, 2, 3, 4] rfl⟩⟩, by rw [ht]; try exact hh_162.1.1, fun q h9 hq => by rw [ht]; try exact hh_162.1.2.1 q h9 hq⟩) hh_162.1.2.2 dX11_advance_160
                  · skip
                    have c_144' : qk_112.toInt = ps_35.toInt := jb_ne_n (rfl) (rfl) c_144
                    first | (have hr_113q := hr_113.resolve_left (by omega); clear hr_113) | (have hr_113q := hr_113.resolve_right (by omega); clear hr_113) | skip
                    refine lv_aload_n hx hb dX11_advance_150 rfl (lv_at hl 2 rfl) ?_
                    refine lv_aload_n hx hb dX11_advance_151 rfl (lv_at hl 1 rfl) ?_
                    refine lv_iconst (v := 1) hx hb dX11_advance_152 (by decide) ?_
                    have hsz_164 := hh_143.2.2.2.2.2.1
                    have htt_164 := hh_143.2.2.2.2.2.2.1
                    refine W.room (fun hrc_164 hrs_164 => ?_)
                    refine va_callv (A0 := jA base) (H0 := s.heap) (va_runV (As := [.ref ret_14, .int 1]) (rest := []) ⟨hx, hb, hml, hown, hts⟩ (uX11_publish l dC dI ca base B hB hAp hB2 hB3 hB4 hB11 hB13 hB101 hB171 hB172 hB173 hB174 hB196 hB210 G_114 H_139 r0 ret_14 1 bo pc pa n_pa ou LC LS) (cwV 2 hts (jgV (jWr_39 _ (List.mem_of_getElem? (i := 19) rfl)) (jWr_39 _ (List.mem_of_getElem? (i := 20) rfl)) (jWr_39 _ (List.mem_of_getElem? (i := 21) rfl)) (jWr_1 _ (List.mem_of_getElem? (i := 2) rfl)) (jWr_39 _ (List.mem_of_getElem? (i := 22) rfl))) rfl rfl rfl (by decide +kernel) ⟨by rw [← hR]; exact Nat.le_of_ble_eq_true rfl, by rw [← hR]; exact Nat.le_of_ble_eq_true rfl⟩) ⟨fun a U g mk q => by obtain ⟨q0, q1, q2, qK, q10, q11, q12, q13, q14, q15, q16, q17, q18, q19⟩ := q; exact ⟨q0, q1, q2, jG.calling g mk a qK, (va_K.moved (Vm.Alike.refl U.vm) q10), q11, q12, q13, q14, q15, q16, q17, q18, q19⟩, hh_143.recv (C := RX11) (T := TX11) (N := 19) hB13 rfl (by decide) hg_118 hK, fun U hU hW => ⟨rfl, hU, hh_143.2.1, hG.step hW hU hh_143.1, va_K.moved hW.alike hK2, hg_117, hg_118, (Or.inr rfl), hg_125, hg_126, hg_127, (hh_143.2.2.1.sub (L1 := [(r0, 13, 4, .ref bo), (bo, 2, 1, .int pc), (bo, 2, 0, .ref pa), (r0, 13, 3, .ref ou)]) [8, 9, 10, 11] rfl), (hh_143.2.2.2.2.2.2.2.2.sub (L1 := [(jFy, jYb dC dI G_114)]) [2] rfl), (by omega), (by omega), ⟨(by first | (with_reducible assumption) | omega | rfl | fail), (by first | (with_reducible assumption) | omega | rfl | fail), (by first | (with_reducible assumption) | omega | rfl | fail), (by first | (with_reducible assumption) | omega | rfl | fail), (by first | assumption | fail | omega)⟩⟩⟩ rfl rfl hl.1 rfl (lv_room (Nat.le_of_ble_eq_true rfl)) dX11_advance_153 ⟨by rw [hRc]; omega, by rw [hRs]; omega⟩) hh_143.1 (fun q _ h => h) (fun q h => h) (fun u_164 t_164 H_164 locs_164 ht_164 hvm_164 hr_165 hb_164 hz_164 hk_164 hS_164 => ?_)
                    obtain ⟨qc_164, qa_164, m_qa_164, G_164⟩ := u_164
                    rw [ht_164] at hb_164
                    simp only at hb_164
                    obtain ⟨⟨hb_1641, hb_1642, hb_1643, hb_1644, hb_1645, hb_1646⟩, hgq_164_0, hN_164, hbO_164, hbE_164⟩ := hb_164
                    have hM_164 := hN_164
                    have hN_164 : (jNk [0, 1, 2, 3, 4, 6, 7, 8, 9, 10, 12, 13, 14, 15, 16]) G_114 G_164 := hN_164.sub (by decide)
                    have hh_164 : jSt (dC, dI) B base G0 G_164 EX11_advance s.heap ((((0 + (1)) + (23)) + (1)) + ((m_qa_164 - n_pa) / 16)) ((((0 + ((jSo fe_35 (pk_35.toInt : Int) - jSo fb_35 (pk_35.toInt : Int)).toNat)) + ((183 + 336 * 1))) + (40)) + (2 * (m_qa_164 - n_pa))) [(bo, 2, 1, .int qc_164), (bo, 2, 0, .ref qa_164), (ret_14, 3, 11, .null), (ret_14, 3, 10, .int qk_112), (kernel_78, 7, 2, .ref start_81), (r0, 13, 5, .ref kernel_78), (ret_14, 3, 4, .int ps_35), (ret_14, 3, 5, .ref yb_35), (ret_14, 3, 6, .ref ye_35), (r0, 13, 10, .ref hands_4), (r0, 13, 4, .ref bo), (r0, 13, 3, .ref ou)] [(yb_35, 171, 40, ca 1, fb_35), (ye_35, 172, 40, ca 1, fe_35)] [(jFdo, jDcc dC dI ca G_114 none phn_141), (jFl, jLs dC dI ca G_114 3 none wl), (jFs11, jSef dC dI G_114)] H_164 locs_164 := (hh_143.callG hb_1641 hb_1642 hb_1643 hb_1644 hb_1645 hS_164 rfl (L1 := [(ret_14, 3, 11, .null), (ret_14, 3, 10, .int qk_112), (kernel_78, 7, 2, .ref start_81), (r0, 13, 5, .ref kernel_78), (ret_14, 3, 4, .int ps_35), (ret_14, 3, 5, .ref yb_35), (ret_14, 3, 6, .ref ye_35), (r0, 13, 10, .ref hands_4), (r0, 13, 4, .ref bo), (r0, 13, 3, .ref ou)]) [0, 1, 2, 3, 4, 5, 6, 7, 8, 11] rfl rfl (M1 := [(yb_35, 171, 40, ca 1, fb_35), (ye_35, 172, 40, ca 1, fe_35)]) [0, 1] rfl rfl (I1 := [(jFdo, jDcc dC dI ca G_114 none phn_141), (jFl, jLs dC dI ca G_114 3 none wl), (jFs11, jSef dC dI G_114)]) [0, 1, 3] rfl rfl).more hb_1646
                    have hNn_164 : (jNk [0, 1, 2, 3, 4, 6, 7, 8, 9, 10, 12, 13, 14, 15, 16]) G0 G_164 := (hNn_114).tr hN_164
                    have hg_166 := hb_1642 _ _ hg_116
                    have hg_167 := hb_1642 _ _ hg_117
                    have hg_168 := hb_1642 _ _ hg_118
                    have hg_169 := hb_1642 _ _ hg_119
                    have hg_170 := hb_1642 _ _ hg_120
                    have hg_171 := hb_1642 _ _ hg_122
                    have hg_172 := hb_1642 _ _ hg_123
                    have hg_173 := hb_1642 _ _ hg_124
                    have hg_174 := hb_1642 _ _ hg_125
                    have hg_175 := hb_1642 _ _ hg_127
                    have hd_176 := jDcc.grow (hh_164.iv 0 rfl) hb_1642 hN_164 (by decide)
                    have hh_177 := hh_164.sub (L1 := [(bo, 2, 1, .int qc_164), (bo, 2, 0, .ref qa_164), (ret_14, 3, 11, .null), (ret_14, 3, 10, .int qk_112), (kernel_78, 7, 2, .ref start_81), (r0, 13, 5, .ref kernel_78), (ret_14, 3, 4, .int ps_35), (ret_14, 3, 5, .ref yb_35), (ret_14, 3, 6, .ref ye_35), (r0, 13, 10, .ref hands_4), (r0, 13, 4, .ref bo), (r0, 13, 3, .ref ou)]) [0, 1, 2, 3, 4, 5, 6, 7, 8, 9, 10, 11] rfl (M1 := [(yb_35, 171, 40, ca 1, fb_35), (ye_35, 172, 40, ca 1, fe_35)]) [0, 1] rfl (I1 := [(jFl, jLs dC dI ca G_114 3 none wl), (jFs11, jSef dC dI G_114)]) [1, 2] rfl
                    clear hh_164
                    have hh_178 := hh_177.addI (jDcc.ie hd_176)
                    clear hh_177
                    have hd_179 := jLs.grow (hh_178.iv 1 rfl) hb_1642 hN_164 (by decide)
                    have hh_180 := hh_178.sub (L1 := [(bo, 2, 1, .int qc_164), (bo, 2, 0, .ref qa_164), (ret_14, 3, 11, .null), (ret_14, 3, 10, .int qk_112), (kernel_78, 7, 2, .ref start_81), (r0, 13, 5, .ref kernel_78), (ret_14, 3, 4, .int ps_35), (ret_14, 3, 5, .ref yb_35), (ret_14, 3, 6, .ref ye_35), (r0, 13, 10, .ref hands_4), (r0, 13, 4, .ref bo), (r0, 13, 3, .ref ou)]) [0, 1, 2, 3, 4, 5, 6, 7, 8, 9, 10, 11] rfl (M1 := [(yb_35, 171, 40, ca 1, fb_35), (ye_35, 172, 40, ca 1, fe_35)]) [0, 1] rfl (I1 := [(jFdo, jDcc dC dI ca G_164 none phn_141), (jFs11, jSef dC dI G_114)]) [0, 2] rfl
                    clear hh_178
                    have hh_181 := hh_180.addI (jLs.ie hd_179)
                    clear hh_180
                    have hd_182 := jSef.grow (hh_181.iv 2 rfl) hb_1642 hM_164 (by decide)
                    have hh_183 := hh_181.sub (L1 := [(bo, 2, 1, .int qc_164), (bo, 2, 0, .ref qa_164), (ret_14, 3, 11, .null), (ret_14, 3, 10, .int qk_112), (kernel_78, 7, 2, .ref start_81), (r0, 13, 5, .ref kernel_78), (ret_14, 3, 4, .int ps_35), (ret_14, 3, 5, .ref yb_35), (ret_14, 3, 6, .ref ye_35), (r0, 13, 10, .ref hands_4), (r0, 13, 4, .ref bo), (r0, 13, 3, .ref ou)]) [0, 1, 2, 3, 4, 5, 6, 7, 8, 9, 10, 11] rfl (M1 := [(yb_35, 171, 40, ca 1, fb_35), (ye_35, 172, 40, ca 1, fe_35)]) [0, 1] rfl (I1 := [(jFl, jLs dC dI ca G_164 3 none wl), (jFdo, jDcc dC dI ca G_164 none phn_141)]) [0, 1] rfl
                    clear hh_181
                    have hh_184 := hh_183.addI (jSef.ie hd_182)
                    clear hh_183
                    have hh_185 := hh_184.addIs hbE_164
                    have hd_186 := jOl.trL (hh_143.iv 4 rfl) hh_143.2.2.2.2.1 hbO_164 (by simp)
                    have hh_187 := hh_185.addI (jOl.ie (dC := dC) (dI := dI) (G0 := G0) (k := 2) (rs := [bo, ou]) (H0 := s.heap) (F := [(2, 0), (2, 1)]) (C := RX0) (T := TX0) (N := 2) rfl (by decide) hh_185.2.2.2.2.1 (hd_186))
                    clear hh_185
                    try simp only at hr_165
                    obtain ⟨hr_165_0, hr_165_1, hr_165_2, hr_165_3, hr_165_4⟩ := hr_165
                    refine lv_aload_n hx hb dX11_advance_156 rfl (lv_at hl 2 rfl) ?_
                    have hsz_188 := hh_187.2.2.2.2.2.1
                    have htt_188 := hh_187.2.2.2.2.2.2.1
                    refine W.room (fun hrc_188 hrs_188 => ?_)
                    refine va_callv (A0 := jA base) (H0 := s.heap) (va_runV (As := []) (rest := []) ⟨hx, hb, hml, hown, hts⟩ (uX11_answerReady l dC dI ca base B hB hAp hB1 hB2 hB3 hB4 hB5 hB7 hB8 hB9 hB10 hB11 hB13 hB101 hB102 hB132 hB196 hB210 hB214 hB222 hB280 hB286 hB287 hB288 hB313 G_164 H_164 r0 bo qc_164 qa_164 m_qa_164 ou wl LC LS) (cwV 0 hts (jgV (jWr_89 _ (List.mem_of_getElem? (i := 12) rfl)) (jWr_89 _ (List.mem_of_getElem? (i := 13) rfl)) (jWr_89 _ (List.mem_of_getElem? (i := 14) rfl)) (jWr_1 _ (List.mem_of_getElem? (i := 2) rfl)) (jWr_89 _ (List.mem_of_getElem? (i := 15) rfl))) rfl rfl rfl (by decide +kernel) ⟨by rw [← hR]; exact Nat.le_of_ble_eq_true rfl, by rw [← hR]; exact Nat.le_of_ble_eq_true rfl⟩) ⟨fun a U g mk q => by obtain ⟨q0, q1, q2, qK, q10, q11, q12, q13, q14, q15, q16, q17, q18, q19⟩ := q; exact ⟨q0, q1, q2, jG.calling g mk a qK, (va_K.moved (Vm.Alike.refl U.vm) q10), (jK5.moved (Vm.Alike.refl U.vm) q11), (jK7.calling g mk a q12), q13, q14, q15, q16, q17, q18, q19⟩, hh_187.recv (C := RX11) (T := TX11) (N := 19) hB13 rfl (by decide) hg_168 hK, fun U hU hW => ⟨rfl, hU, hh_187.2.1, hG.step hW hU hh_187.1, va_K.moved hW.alike hK2, jK5.moved hW.alike hK5, (hK7.step hW hU hh_187.1), hg_168, hg_174, hgq_164_0, hg_175, (hh_187.2.2.1.sub (L1 := [(r0, 13, 4, .ref bo), (bo, 2, 1, .int qc_164), (bo, 2, 0, .ref qa_164), (r0, 13, 3, .ref ou)]) [10, 0, 1, 11] rfl), (hh_187.2.2.2.2.2.2.2.2.sub (L1 := [(jFy, jYb dC dI G_164), (jFs11, jSef dC dI G_164), (jFl, jLs dC dI ca G_164 3 none wl)]) [1, 2, 3] rfl), (by omega), (by omega), ⟨(by first | (with_reducible assumption) | omega | rfl | fail), (by first | (with_reducible assumption) | omega | rfl | fail), (by first | (with_reducible assumption) | omega | rfl | fail), (by first | (with_reducible assumption) | omega | rfl | fail), (by first | assumption | fail | omega)⟩⟩⟩ rfl rfl hl.1 rfl (lv_room (Nat.le_of_ble_eq_true rfl)) dX11_advance_157 ⟨by rw [hRc]; omega, by rw [hRs]; omega⟩) hh_187.1 (fun q _ h => h) (fun q h => h) (fun u_188 t_188 H_188 locs_188 ht_188 hvm_188 hr_189 hb_188 hz_188 hk_188 hS_188 => ?_)
                    obtain ⟨qc_188, qa_188, m_qa_188, G_188⟩ := u_188
                    rw [ht_188] at hb_188
                    simp only at hb_188
                    obtain ⟨⟨hb_1881, hb_1882, hb_1883, hb_1884, hb_1885, hb_1886⟩, hgq_188_0, hN_188, hbO_188, hbE_188⟩ := hb_188
                    have hM_188 := hN_188
                    have hN_188 : (jNk [0, 1, 2, 3, 4, 6, 7, 8, 9, 10, 12, 13, 14, 15, 16]) G_164 G_188 := hN_188.sub (by decide)
                    have hh_188 : jSt (dC, dI) B base G0 G_188 EX11_advance s.heap (((((0 + (1)) + (23)) + (1)) + ((m_qa_164 - n_pa) / 16)) + ((m_qa_188 - m_qa_164) / 16)) (((((0 + ((jSo fe_35 (pk_35.toInt : Int) - jSo fb_35 (pk_35.toInt : Int)).toNat)) + ((183 + 336 * 1))) + (40)) + (2 * (m_qa_164 - n_pa))) + (2 * (m_qa_188 - m_qa_164))) [(bo, 2, 1, .int qc_188), (bo, 2, 0, .ref qa_188), (ret_14, 3, 11, .null), (ret_14, 3, 10, .int qk_112), (kernel_78, 7, 2, .ref start_81), (r0, 13, 5, .ref kernel_78), (ret_14, 3, 4, .int ps_35), (ret_14, 3, 5, .ref yb_35), (ret_14, 3, 6, .ref ye_35), (r0, 13, 10, .ref hands_4), (r0, 13, 4, .ref bo), (r0, 13, 3, .ref ou)] [(yb_35, 171, 40, ca 1, fb_35), (ye_35, 172, 40, ca 1, fe_35)] [(jFdo, jDcc dC dI ca G_164 none phn_141)] H_188 locs_188 := (hh_187.callG hb_1881 hb_1882 hb_1883 hb_1884 hb_1885 hS_188 rfl (L1 := [(ret_14, 3, 11, .null), (ret_14, 3, 10, .int qk_112), (kernel_78, 7, 2, .ref start_81), (r0, 13, 5, .ref kernel_78), (ret_14, 3, 4, .int ps_35), (ret_14, 3, 5, .ref yb_35), (ret_14, 3, 6, .ref ye_35), (r0, 13, 10, .ref hands_4), (r0, 13, 4, .ref bo), (r0, 13, 3, .ref ou)]) [2, 3, 4, 5, 6, 7, 8, 9, 10, 11] rfl rfl (M1 := [(yb_35, 171, 40, ca 1, fb_35), (ye_35, 172, 40, ca 1, fe_35)]) [0, 1] rfl rfl (I1 := [(jFdo, jDcc dC dI ca G_164 none phn_141)]) [4] rfl rfl).more hb_1886
                    have hNn_188 : (jNk [0, 1, 2, 3, 4, 6, 7, 8, 9, 10, 12, 13, 14, 15, 16]) G0 G_188 := (hNn_164).tr hN_188
                    have hg_190 := hb_1882 _ _ hg_166
                    have hg_191 := hb_1882 _ _ hg_167
                    have hg_192 := hb_1882 _ _ hg_168
                    have hg_193 := hb_1882 _ _ hg_169
                    have hg_194 := hb_1882 _ _ hg_170
                    have hg_195 := hb_1882 _ _ hg_171
                    have hg_196 := hb_1882 _ _ hg_172
                    have hg_197 := hb_1882 _ _ hg_173
                    have hg_198 := hb_1882 _ _ hg_174
                    have hg_199 := hb_1882 _ _ hg_175
                    have hd_200 := jDcc.grow (hh_188.iv 0 rfl) hb_1882 hN_188 (by decide)
                    have hh_201 := hh_188.sub (L1 := [(bo, 2, 1, .int qc_188), (bo, 2, 0, .ref qa_188), (ret_14, 3, 11, .null), (ret_14, 3, 10, .int qk_112), (kernel_78, 7, 2, .ref start_81), (r0, 13, 5, .ref kernel_78), (ret_14, 3, 4, .int ps_35), (ret_14, 3, 5, .ref yb_35), (ret_14, 3, 6, .ref ye_35), (r0, 13, 10, .ref hands_4), (r0, 13, 4, .ref bo), (r0, 13, 3, .ref ou)]) [0, 1, 2, 3, 4, 5, 6, 7, 8, 9, 10, 11] rfl (M1 := [(yb_35, 171, 40, ca 1, fb_35), (ye_35, 172, 40, ca 1, fe_35)]) [0, 1] rfl (I1 := []) [] rfl
                    clear hh_188
                    have hh_202 := hh_201.addI (jDcc.ie hd_200)
                    clear hh_201
                    have hh_203 := hh_202.addIs hbE_188
                    have hd_204 := jOl.trL (hh_187.iv 0 rfl) hh_187.2.2.2.2.1 hbO_188 (by simp)
                    have hh_205 := hh_203.addI (jOl.ie (dC := dC) (dI := dI) (G0 := G0) (k := 2) (rs := [bo, ou]) (H0 := s.heap) (F := [(2, 0), (2, 1)]) (C := RX0) (T := TX0) (N := 2) rfl (by decide) hh_203.2.2.2.2.1 (hd_204))
                    clear hh_203
                    try simp only at hr_189
                    obtain ⟨hr_189_0, hr_189_1, hr_189_2, hr_189_3, hr_189_4⟩ := hr_189
                    have hsz_206 := hh_205.2.2.2.2.2.1
                    have htt_206 := hh_205.2.2.2.2.2.2.1
                    refine W.room (fun hrc_206 hrs_206 => ?_)
                    refine W.widen (k := LC - s.heap.size) (n := LS - jTot s.heap) (by omega) (by omega) ?_
                    rw [hQ]
                    exact W.vret hx hb hr (fun t ht hW => ⟨⟨(qc_188, qa_188, m_qa_188, phn_141, G_188), rfl, by (try dsimp only); exact ⟨(by first | (with_reducible assumption) | omega | rfl | fail), (by first | (with_reducible assumption) | omega | rfl | fail), (by first | (with_reducible assumption) | omega | rfl | fail), (by first | (with_reducible assumption) | omega | rfl | fail), (by first | assumption | fail | omega), (by first | (with_reducible assumption) | omega | rfl | fail)⟩, ⟨hh_205.ra (by first | (simp only; omega) | omega) (by first | (simp only; omega) | omega) (M1 := [(bo, 2, 1, .int qc_188), (bo, 2, 0, .ref qa_188)]) [0, 1] rfl ht, hgq_188_0, hNn_188, by rw [ht]; exact hh_205.iv 0 rfl, by rw [ht]; exact hh_205.2.2.2.2.2.2.2.2.sub (L1 := [(jFy, jYb dC dI G_188), (jFs11, jSef dC dI G_188), (jFl, jLs dC dI ca G_188 3 none wl), (jFdo, jDcc dC dI ca G_188 none phn_141)]) [1, 2, 3, 4] rfl⟩⟩, by rw [ht]; try exact hh_205.1.1, fun q h9 hq => by rw [ht]; try exact hh_205.1.2.1 q h9 hq⟩) hh_205.1.2.2 dX11_advance_160
                · refine j7_read hx hb hown hK (C := RX1) (T := TX1) (N := 17) rfl hly_3_12 hlk_580 (hh_74.at 0 rfl) dX11_advance_72 ?_
                  refine lv_astore_n (lv' := [(3, .ref found_75), (2, .ref ret_14), (0, .ref r0), (1, .int a1)]) hx hb dX11_advance_75 rfl hl (by decide) rfl (fun ls hl => ?_)
                  refine lv_aload_n hx hb dX11_advance_76 rfl (lv_at hl 0 rfl) ?_
                  refine lv_ifnull hx hb dX11_advance_77 ?_
                  refine lv_aload_n hx hb dX11_advance_80 rfl (lv_at hl 2 rfl) ?_
                  refine lv_dup hx hb dX11_advance_81 rfl ?_
                  obtain ⟨v_207, hv_207, hh_208⟩ := hh_74.pin (C := RX11) (T := TX11) (N := 19) hB13 rfl (by decide) hg_45 (i := 13) (by decide) rfl
                  clear hh_74
                  obtain ⟨reused_209, rfl⟩ := hv_207
                  refine j7_read hx hb hown hK (C := RX11) (T := TX11) (N := 19) rfl hly_13_13 hlk_148 (hh_208.at 0 rfl) dX11_advance_82 ?_
                  refine lv_iconst (v := 1) hx hb dX11_advance_85 (by decide) ?_
                  refine lv_iadd hx hb dX11_advance_86 ?_
                  refine lv_topi (fun z_210 ez_210 => ?_)
                  refine j7_put hx hb hown hK hh_208 hB hAp hB13 (C := RX11) (T := TX11) (N := 19) rfl (by decide) hg_45 (i := 13) (by decide) hly_13_13 rfl hlk_148 rfl (ty := .int) (v := .int z_210) (by decide +kernel) rfl rfl (⟨_, rfl⟩) rfl (L1 := [(ret_14, 3, 12, .ref found_75), (ret_14, 3, 13, .int z_66), (ret_14, 3, 11, .ref qc_43), (ret_14, 3, 4, .int ps_35), (ret_14, 3, 10, .int pk_35), (ret_14, 3, 5, .ref yb_35), (ret_14, 3, 6, .ref ye_35), (r0, 13, 10, .ref hands_4), (r0, 13, 4, .ref bo), (bo, 2, 1, .int pc), (bo, 2, 0, .ref pa), (r0, 13, 3, .ref ou)]) [1, 2, 3, 4, 5, 6, 7, 8, 9, 10, 11, 12] rfl rfl rfl dX11_advance_87 (fun H_211 locs_211 hh_211 => ?_)
                  clear hh_208
                  refine lv_goto (tgt := 124) hx hb dX11_advance_90 (by decide) ?_
                  refine lv_aload_n hx hb dX11_advance_124 rfl (lv_at hl 1 rfl) ?_
                  refine lv_aload_n hx hb dX11_advance_125 rfl (lv_at hl 0 rfl) ?_
                  have hsz_212 := hh_211.2.2.2.2.2.1
                  have htt_212 := hh_211.2.2.2.2.2.2.1
                  refine W.room (fun hrc_212 hrs_212 => ?_)
                  refine va_callv (A0 := jA base) (H0 := s.heap) (va_runV (As := [.ref found_75]) (rest := []) ⟨hx, hb, hml, hown, hts⟩ (uX1_addCheckedE l dC dI ca base B hB hAp hB3 hB11 hB210 G_43 H_211 ret_14 found_75 yb_35 ye_35 ps_35 pk_35 (pho_35)) (cwV 1 hts (jgV (jWr_89 _ (List.mem_of_getElem? (i := 4) rfl)) (jWr_89 _ (List.mem_of_getElem? (i := 5) rfl)) (jWr_89 _ (List.mem_of_getElem? (i := 6) rfl)) (jWr_2 _ (List.mem_of_getElem? (i := 21) rfl)) (jWr_89 _ (List.mem_of_getElem? (i := 7) rfl))) rfl rfl rfl (by decide +kernel) ⟨by rw [← hR]; exact Nat.le_of_ble_eq_true rfl, by rw [← hR]; exact Nat.le_of_ble_eq_true rfl⟩) ⟨fun a U g mk q => by obtain ⟨q0, q1, q2, qK, q10, q11, q12, q13, q14, q15, q16, q17⟩ := q; exact ⟨q0, q1, q2, jG.calling g mk a qK, (va_K.moved (Vm.Alike.refl U.vm) q10), q11, q12, q13, q14, q15, q16, q17⟩, hh_211.recv (C := RX1) (T := TX1) (N := 17) hB3 rfl (by decide) hg_el_61 hK, fun U hU hW => ⟨rfl, hU, hh_211.2.1, hG.step hW hU hh_211.1, va_K.moved hW.alike hK2, hg_el_61, hg_found_75, hg_46, hg_47, (hh_211.2.2.1.sub (L1 := [(ret_14, 3, 5, .ref yb_35), (ret_14, 3, 6, .ref ye_35), (ret_14, 3, 4, .int ps_35), (ret_14, 3, 10, .int pk_35)]) [6, 7, 4, 5] rfl), (hh_211.2.2.2.2.2.2.2.2.sub (L1 := [(jFdo, jDcc dC dI ca G_43 (some ret_14) pho_35)]) [1] rfl), ⟨(by first | (with_reducible assumption) | omega | rfl | fail), (by first | (with_reducible assumption) | omega | rfl | fail), (by first | (with_reducible assumption) | omega | rfl | fail), (by first | (with_reducible assumption) | omega | rfl | fail)⟩⟩⟩ rfl rfl hl.1 rfl (lv_room (Nat.le_of_ble_eq_true rfl)) dX11_advance_126 ⟨by rw [hRc]; show _ + 0 ≤ _; omega, by rw [hRs]; show _ + 0 ≤ _; omega⟩) hh_211.1 (fun q _ h => h) (fun q h => h) (fun u_212 t_212 H_212 locs_212 ht_212 hvm_212 hr_213 hb_212 hz_212 hk_212 hS_212 => ?_)
                  obtain ⟨qk_212, rfl⟩ : ∃ z, z = u_212 := ⟨_, rfl⟩
                  rw [ht_212] at hb_212
                  obtain ⟨hb_212, hbE_212⟩ := hb_212
                  obtain ⟨hb_212, hbO_212⟩ := hb_212
                  obtain ⟨hb_2121, hb_2122, hb_2123, hb_2124, hb_2125⟩ := hb_212
                  have hh_212 : jSt (dC, dI) B base G0 G_43 EX11_advance s.heap (0 + (1)) (0 + ((jSo fe_35 (pk_35.toInt : Int) - jSo fb_35 (pk_35.toInt : Int)).toNat)) [(ret_14, 3, 10, .int qk_212), (r0, 13, 13, .int z_210), (ret_14, 3, 12, .ref found_75), (ret_14, 3, 13, .int z_66), (ret_14, 3, 11, .ref qc_43), (ret_14, 3, 4, .int ps_35), (ret_14, 3, 5, .ref yb_35), (ret_14, 3, 6, .ref ye_35), (r0, 13, 10, .ref hands_4), (r0, 13, 4, .ref bo), (bo, 2, 1, .int pc), (bo, 2, 0, .ref pa), (r0, 13, 3, .ref ou)] [(yb_35, 171, 40, ca 1, fb_35), (ye_35, 172, 40, ca 1, fe_35)] [(jFdo, jDcc dC dI ca G_43 (some ret_14) pho_35), (jFl, jLs dC dI ca G_43 3 none wl), (jFs11, jSef dC dI G_43), (jFy, jYb dC dI G_43), ([(212, 0)], jQc dC dI (ca 5) hands_4 2 fq_28), ([(2, 0), (2, 1)], jOl (dC, dI) G0 2 [bo, ou] s.heap)] H_212 locs_212 := (((hh_211.call hb_2121 hb_2122 hb_2123 hb_2124 hS_212 rfl (L1 := [(r0, 13, 13, .int z_210), (ret_14, 3, 12, .ref found_75), (ret_14, 3, 13, .int z_66), (ret_14, 3, 11, .ref qc_43), (ret_14, 3, 4, .int ps_35), (ret_14, 3, 5, .ref yb_35), (ret_14, 3, 6, .ref ye_35), (r0, 13, 10, .ref hands_4), (r0, 13, 4, .ref bo), (bo, 2, 1, .int pc), (bo, 2, 0, .ref pa), (r0, 13, 3, .ref ou)]) [0, 1, 2, 3, 4, 6, 7, 8, 9, 10, 11, 12] rfl rfl (M1 := [(yb_35, 171, 40, ca 1, fb_35), (ye_35, 172, 40, ca 1, fe_35)]) [0, 1] rfl rfl (I1 := [(jFl, jLs dC dI ca G_43 3 none wl), (jFs11, jSef dC dI G_43), (jFy, jYb dC dI G_43), ([(212, 0)], jQc dC dI (ca 5) hands_4 2 fq_28), ([(2, 0), (2, 1)], jOl (dC, dI) G0 2 [bo, ou] s.heap)]) [0, 2, 3, 4, 5] rfl rfl).more hb_2125)).addIs hbE_212
                  clear hh_211 ht_212 hvm_212 hz_212 hk_212 hS_212 hb_2121 hb_2122 hb_2123 hb_2124 hb_2125
                  clear  hbE_212
                  refine lv_aload_n hx hb dX11_advance_129 rfl (lv_at hl 2 rfl) ?_
                  refine lv_aload_n hx hb dX11_advance_130 rfl (lv_at hl 0 rfl) ?_
                  have hsz_214 := hh_212.2.2.2.2.2.1
                  have htt_214 := hh_212.2.2.2.2.2.2.1
                  refine W.room (fun hrc_214 hrs_214 => ?_)
                  refine va_callv (A0 := jA base) (H0 := s.heap) (va_runV (As := [.ref found_75]) (rest := []) ⟨hx, hb, hml, hown, hts⟩ (uX11_remember l dC dI ca base B hB hAp hB1 hB11 hB13 hB101 hB223 G_43 H_212 r0 found_75 wl LC LS) (cwV 1 hts (jgV (jWr_89 _ (List.mem_of_getElem? (i := 8) rfl)) (jWr_89 _ (List.mem_of_getElem? (i := 9) rfl)) (jWr_89 _ (List.mem_of_getElem? (i := 10) rfl)) (jWr_1 _ (List.mem_of_getElem? (i := 2) rfl)) (jWr_89 _ (List.mem_of_getElem? (i := 11) rfl))) rfl rfl rfl (by decide +kernel) ⟨by rw [← hR]; exact Nat.le_of_ble_eq_true rfl, by rw [← hR]; exact Nat.le_of_ble_eq_true rfl⟩) ⟨fun a U g mk q => by obtain ⟨q0, q1, q2, qK, q10, q11, q12, q13, q14, q15⟩ := q; exact ⟨q0, q1, q2, jG.calling g mk a qK, (jK7.calling g mk a q10), q11, q12, q13, q14, q15⟩, hh_212.recv (C := RX11) (T := TX11) (N := 19) hB13 rfl (by decide) hg_45 hK, fun U hU hW => ⟨rfl, hU, hh_212.2.1, hG.step hW hU hh_212.1, (hK7.step hW hU hh_212.1), hg_45, hg_found_75, jP.nil, (hh_212.2.2.2.2.2.2.2.2.sub (L1 := [(jFl, jLs dC dI ca G_43 3 none wl)]) [1] rfl), (by omega), (by omega), trivial⟩⟩ rfl rfl hl.1 rfl (lv_room (Nat.le_of_ble_eq_true rfl)) dX11_advance_131 ⟨by rw [hRc]; omega, by rw [hRs]; omega⟩) hh_212.1 (fun q _ h => h) (fun q h => h) (fun u_214 t_214 H_214 locs_214 ht_214 hvm_214 hr_215 hb_214 hz_214 hk_214 hS_214 => ?_)
                  rw [ht_214] at hb_214
                  obtain ⟨G_214, rfl⟩ : ∃ z, z = u_214 := ⟨_, rfl⟩
                  try simp only at hb_214
                  obtain ⟨⟨hb_2141, hb_2142, hb_2143, hb_2144, hb_2145, hb_2146⟩, hN_214, hbE_214⟩ := hb_214
                  have hM_214 := hN_214
                  have hN_214 : (jNk [0, 1, 2, 3, 4, 6, 7, 8, 9, 10, 12, 13, 14, 15, 16]) G_43 G_214 := hN_214.sub (by decide)
                  have hh_214 : jSt (dC, dI) B base G0 G_214 EX11_advance s.heap ((0 + (1)) + (1)) ((0 + ((jSo fe_35 (pk_35.toInt : Int) - jSo fb_35 (pk_35.toInt : Int)).toNat)) + (40)) [(ret_14, 3, 10, .int qk_212), (r0, 13, 13, .int z_210), (ret_14, 3, 12, .ref found_75), (ret_14, 3, 13, .int z_66), (ret_14, 3, 11, .ref qc_43), (ret_14, 3, 4, .int ps_35), (ret_14, 3, 5, .ref yb_35), (ret_14, 3, 6, .ref ye_35), (r0, 13, 10, .ref hands_4), (r0, 13, 4, .ref bo), (bo, 2, 1, .int pc), (bo, 2, 0, .ref pa), (r0, 13, 3, .ref ou)] [(yb_35, 171, 40, ca 1, fb_35), (ye_35, 172, 40, ca 1, fe_35)] [(jFdo, jDcc dC dI ca G_43 (some ret_14) pho_35), (jFs11, jSef dC dI G_43), (jFy, jYb dC dI G_43), ([(212, 0)], jQc dC dI (ca 5) hands_4 2 fq_28), ([(2, 0), (2, 1)], jOl (dC, dI) G0 2 [bo, ou] s.heap)] H_214 locs_214 := (hh_212.callG hb_2141 hb_2142 hb_2143 hb_2144 hb_2145 hS_214 rfl (L1 := [(ret_14, 3, 10, .int qk_212), (r0, 13, 13, .int z_210), (ret_14, 3, 12, .ref found_75), (ret_14, 3, 13, .int z_66), (ret_14, 3, 11, .ref qc_43), (ret_14, 3, 4, .int ps_35), (ret_14, 3, 5, .ref yb_35), (ret_14, 3, 6, .ref ye_35), (r0, 13, 10, .ref hands_4), (r0, 13, 4, .ref bo), (bo, 2, 1, .int pc), (bo, 2, 0, .ref pa), (r0, 13, 3, .ref ou)]) [0, 1, 2, 3, 4, 5, 6, 7, 8, 9, 10, 11, 12] rfl rfl (M1 := [(yb_35, 171, 40, ca 1, fb_35), (ye_35, 172, 40, ca 1, fe_35)]) [0, 1] rfl rfl (I1 := [(jFdo, jDcc dC dI ca G_43 (some ret_14) pho_35), (jFs11, jSef dC dI G_43), (jFy, jYb dC dI G_43), ([(212, 0)], jQc dC dI (ca 5) hands_4 2 fq_28), ([(2, 0), (2, 1)], jOl (dC, dI) G0 2 [bo, ou] s.heap)]) [0, 2, 3, 4, 5] rfl rfl).more hb_2146
                  have hNn_214 : (jNk [0, 1, 2, 3, 4, 6, 7, 8, 9, 10, 12, 13, 14, 15, 16]) G0 G_214 := (hNn_43).tr hN_214
                  have hg_216 := hb_2142 _ _ hg_found_75
                  have hg_217 := hb_2142 _ _ hg_el_61
                  have hg_218 := hb_2142 _ _ hg_45
                  have hg_219 := hb_2142 _ _ hgq_43_0
                  have hg_220 := hb_2142 _ _ hg_46
                  have hg_221 := hb_2142 _ _ hg_47
                  have hg_222 := hb_2142 _ _ hg_48
                  have hg_223 := hb_2142 _ _ hg_49
                  have hg_224 := hb_2142 _ _ hg_50
                  have hg_225 := hb_2142 _ _ hg_51
                  have hd_226 := jDcc.grow (hh_214.iv 0 rfl) hb_2142 hN_214 (by decide)
                  have hh_227 := hh_214.sub (L1 := [(ret_14, 3, 10, .int qk_212), (r0, 13, 13, .int z_210), (ret_14, 3, 12, .ref found_75), (ret_14, 3, 13, .int z_66), (ret_14, 3, 11, .ref qc_43), (ret_14, 3, 4, .int ps_35), (ret_14, 3, 5, .ref yb_35), (ret_14, 3, 6, .ref ye_35), (r0, 13, 10, .ref hands_4), (r0, 13, 4, .ref bo), (bo, 2, 1, .int pc), (bo, 2, 0, .ref pa), (r0, 13, 3, .ref ou)]) [0, 1, 2, 3, 4, 5, 6, 7, 8, 9, 10, 11, 12] rfl (M1 := [(yb_35, 171, 40, ca 1, fb_35), (ye_35, 172, 40, ca 1, fe_35)]) [0, 1] rfl (I1 := [(jFs11, jSef dC dI G_43), (jFy, jYb dC dI G_43), ([(212, 0)], jQc dC dI (ca 5) hands_4 2 fq_28), ([(2, 0), (2, 1)], jOl (dC, dI) G0 2 [bo, ou] s.heap)]) [1, 2, 3, 4] rfl
                  clear hh_214
                  have hh_228 := hh_227.addI (jDcc.ie hd_226)
                  clear hh_227
                  have hd_229 := jSef.grow (hh_228.iv 1 rfl) hb_2142 hM_214 (by decide)
                  have hh_230 := hh_228.sub (L1 := [(ret_14, 3, 10, .int qk_212), (r0, 13, 13, .int z_210), (ret_14, 3, 12, .ref found_75), (ret_14, 3, 13, .int z_66), (ret_14, 3, 11, .ref qc_43), (ret_14, 3, 4, .int ps_35), (ret_14, 3, 5, .ref yb_35), (ret_14, 3, 6, .ref ye_35), (r0, 13, 10, .ref hands_4), (r0, 13, 4, .ref bo), (bo, 2, 1, .int pc), (bo, 2, 0, .ref pa), (r0, 13, 3, .ref ou)]) [0, 1, 2, 3, 4, 5, 6, 7, 8, 9, 10, 11, 12] rfl (M1 := [(yb_35, 171, 40, ca 1, fb_35), (ye_35, 172, 40, ca 1, fe_35)]) [0, 1] rfl (I1 := [(jFdo, jDcc dC dI ca G_214 (some ret_14) pho_35), (jFy, jYb dC dI G_43), ([(212, 0)], jQc dC dI (ca 5) hands_4 2 fq_28), ([(2, 0), (2, 1)], jOl (dC, dI) G0 2 [bo, ou] s.heap)]) [0, 2, 3, 4] rfl
                  clear hh_228
                  have hh_231 := hh_230.addI (jSef.ie hd_229)
                  clear hh_230
                  have hd_232 := jYb.grow (hh_231.iv 2 rfl) hb_2142 hN_214 (by decide)
                  have hh_233 := hh_231.sub (L1 := [(ret_14, 3, 10, .int qk_212), (r0, 13, 13, .int z_210), (ret_14, 3, 12, .ref found_75), (ret_14, 3, 13, .int z_66), (ret_14, 3, 11, .ref qc_43), (ret_14, 3, 4, .int ps_35), (ret_14, 3, 5, .ref yb_35), (ret_14, 3, 6, .ref ye_35), (r0, 13, 10, .ref hands_4), (r0, 13, 4, .ref bo), (bo, 2, 1, .int pc), (bo, 2, 0, .ref pa), (r0, 13, 3, .ref ou)]) [0, 1, 2, 3, 4, 5, 6, 7, 8, 9, 10, 11, 12] rfl (M1 := [(yb_35, 171, 40, ca 1, fb_35), (ye_35, 172, 40, ca 1, fe_35)]) [0, 1] rfl (I1 := [(jFs11, jSef dC dI G_214), (jFdo, jDcc dC dI ca G_214 (some ret_14) pho_35), ([(212, 0)], jQc dC dI (ca 5) hands_4 2 fq_28), ([(2, 0), (2, 1)], jOl (dC, dI) G0 2 [bo, ou] s.heap)]) [0, 1, 3, 4] rfl
                  clear hh_231
                  have hh_234 := hh_233.addI (jYb.ie hd_232)
                  clear hh_233
                  have hh_236 := hh_234.addIs hbE_214
                  try simp only at hr_215
                  refine lv_aload_n hx hb dX11_advance_134 rfl (lv_at hl 2 rfl) ?_
                  refine lv_aload_n hx hb dX11_advance_135 rfl (lv_at hl 1 rfl) ?_
                  have hsz_237 := hh_236.2.2.2.2.2.1
                  have htt_237 := hh_236.2.2.2.2.2.2.1
                  refine W.room (fun hrc_237 hrs_237 => ?_)
                  refine va_callv (A0 := jA base) (H0 := s.heap) (va_runV (As := [.ref ret_14]) (rest := []) ⟨hx, hb, hml, hown, hts⟩ (uX11_releaseE l dC dI ca base B hB hAp hB3 hB11 hB13 hB101 hB212 G_214 H_214 r0 ret_14 yb_35 ye_35 (pho_35)) (cwV 1 hts (jgV (jWr_43 _ (List.mem_of_getElem? (i := 3) rfl)) (jWr_43 _ (List.mem_of_getElem? (i := 4) rfl)) (jWr_43 _ (List.mem_of_getElem? (i := 5) rfl)) (jWr_1 _ (List.mem_of_getElem? (i := 2) rfl)) (jWr_43 _ (List.mem_of_getElem? (i := 6) rfl))) rfl rfl rfl (by decide +kernel) ⟨by rw [← hR]; exact Nat.le_of_ble_eq_true rfl, by rw [← hR]; exact Nat.le_of_ble_eq_true rfl⟩) ⟨fun a U g mk q => by obtain ⟨q0, q1, q2, qK, q10, q11, q12, q13, q14, q15, q16, q17⟩ := q; exact ⟨q0, q1, q2, jG.calling g mk a qK, (va_K.moved (Vm.Alike.refl U.vm) q10), q11, q12, q13, q14, q15, q16, q17⟩, hh_236.recv (C := RX11) (T := TX11) (N := 19) hB13 rfl (by decide) hg_218 hK, fun U hU hW => ⟨rfl, hU, hh_236.2.1, hG.step hW hU hh_236.1, va_K.moved hW.alike hK2, hg_218, hg_217, hg_220, hg_221, (hh_236.2.2.1.sub (L1 := [(ret_14, 3, 5, .ref yb_35), (ret_14, 3, 6, .ref ye_35)]) [6, 7] rfl), (hh_236.2.2.2.2.2.2.2.2.sub (L1 := [(jFdo, jDcc dC dI ca G_214 (some ret_14) pho_35)]) [3] rfl), trivial⟩⟩ rfl rfl hl.1 rfl (lv_room (Nat.le_of_ble_eq_true rfl)) dX11_advance_136 ⟨by rw [hRc]; show _ + 0 ≤ _; omega, by rw [hRs]; show _ + 0 ≤ _; omega⟩) hh_236.1 (fun q _ h => h) (fun q h => h) (fun u_237 t_237 H_237 locs_237 ht_237 hvm_237 hr_238 hb_237 hz_237 hk_237 hS_237 => ?_)
                  rw [ht_237] at hb_237
                  obtain ⟨hb_237, hbE_237⟩ := hb_237
                  obtain ⟨hb_2371, hb_2372, hb_2373, hb_2374, hb_2375⟩ := hb_237
                  have hh_237 : jSt (dC, dI) B base G0 G_214 EX11_advance s.heap ((0 + (1)) + (1)) ((0 + ((jSo fe_35 (pk_35.toInt : Int) - jSo fb_35 (pk_35.toInt : Int)).toNat)) + (40)) [(ret_14, 3, 11, .null), (ret_14, 3, 10, .int qk_212), (r0, 13, 13, .int z_210), (ret_14, 3, 4, .int ps_35), (ret_14, 3, 5, .ref yb_35), (ret_14, 3, 6, .ref ye_35), (r0, 13, 10, .ref hands_4), (r0, 13, 4, .ref bo), (bo, 2, 1, .int pc), (bo, 2, 0, .ref pa), (r0, 13, 3, .ref ou)] [(yb_35, 171, 40, ca 1, fb_35), (ye_35, 172, 40, ca 1, fe_35)] [(jFdo, jDcc dC dI ca G_214 (some ret_14) pho_35), (jFl, jLs dC dI ca G_214 3 none wl), (jFy, jYb dC dI G_214), (jFs11, jSef dC dI G_214), ([(2, 0), (2, 1)], jOl (dC, dI) G0 2 [bo, ou] s.heap)] H_237 locs_237 := (((hh_236.call hb_2371 hb_2372 hb_2373 hb_2374 hS_237 rfl (L1 := [(ret_14, 3, 10, .int qk_212), (r0, 13, 13, .int z_210), (ret_14, 3, 4, .int ps_35), (ret_14, 3, 5, .ref yb_35), (ret_14, 3, 6, .ref ye_35), (r0, 13, 10, .ref hands_4), (r0, 13, 4, .ref bo), (bo, 2, 1, .int pc), (bo, 2, 0, .ref pa), (r0, 13, 3, .ref ou)]) [0, 1, 5, 6, 7, 8, 9, 10, 11, 12] rfl rfl (M1 := [(yb_35, 171, 40, ca 1, fb_35), (ye_35, 172, 40, ca 1, fe_35)]) [0, 1] rfl rfl (I1 := [(jFl, jLs dC dI ca G_214 3 none wl), (jFy, jYb dC dI G_214), (jFs11, jSef dC dI G_214), ([(2, 0), (2, 1)], jOl (dC, dI) G0 2 [bo, ou] s.heap)]) [0, 1, 2, 5] rfl rfl).more hb_2375)).addIs hbE_237
                  clear hh_236 ht_237 hvm_237 hz_237 hk_237 hS_237 hb_2371 hb_2372 hb_2373 hb_2374 hb_2375
                  clear  hbE_237
                  have hqe_239 : qk_212.toInt = pk_35.toInt + 1 → jEd fe_35 qk_212.toInt = jSo fe_35 pk_35.toInt := fun h9 => by rw [h9]; exact hnx_35.2.2.1
                  obtain ⟨phn_239, hphn_239⟩ : ∃ q : Nat, q = pho_35 + (575 * (ps_35.toInt - qk_212.toInt) + (1500 - jEd fe_35 qk_212.toInt)).toNat := ⟨_, rfl⟩
                  have hF_239 := jDcc.full (ph1 := phn_239) (hh_237.iv 0 rfl) hg_217 (hh_237.at 4 rfl) (hh_237.at 5 rfl) ⟨(hh_237.2.2.1.sub (L1 := [(ret_14, 3, 4, .int ps_35), (ret_14, 3, 10, .int qk_212), (ret_14, 3, 11, .null)]) [3, 1, 0] rfl), (hh_237.2.2.2.2.2.2.2.1.sub (L1 := [(yb_35, 171, 40, ca 1, fb_35), (ye_35, 172, 40, ca 1, fe_35)]) [0, 1] rfl), hsn_35, by omega⟩ (w := (575 * (ps_35.toInt - qk_212.toInt) + (1500 - jEd fe_35 qk_212.toInt)).toNat) (fun _ => jPo.mkN (by omega)) (by omega) (fun _ => by omega)
                  have hh_240 := hh_237.sub (L1 := [(ret_14, 3, 11, .null), (ret_14, 3, 10, .int qk_212), (r0, 13, 13, .int z_210), (ret_14, 3, 4, .int ps_35), (ret_14, 3, 5, .ref yb_35), (ret_14, 3, 6, .ref ye_35), (r0, 13, 10, .ref hands_4), (r0, 13, 4, .ref bo), (bo, 2, 1, .int pc), (bo, 2, 0, .ref pa), (r0, 13, 3, .ref ou)]) [0, 1, 2, 3, 4, 5, 6, 7, 8, 9, 10] rfl (M1 := [(yb_35, 171, 40, ca 1, fb_35), (ye_35, 172, 40, ca 1, fe_35)]) [0, 1] rfl (I1 := [(jFl, jLs dC dI ca G_214 3 none wl), (jFy, jYb dC dI G_214), (jFs11, jSef dC dI G_214), ([(2, 0), (2, 1)], jOl (dC, dI) G0 2 [bo, ou] s.heap)]) [1, 2, 3, 4] rfl
                  clear hh_237
                  have hh_241 := hh_240.addI (jDcc.ie hF_239)
                  clear hh_240
                  refine lv_aload_n hx hb dX11_advance_139 rfl (lv_at hl 1 rfl) ?_
                  refine j7_read hx hb hown hK (C := RX1) (T := TX1) (N := 17) rfl hly_3_10 hlk_171 (hh_241.at 1 rfl) dX11_advance_140 ?_
                  refine lv_aload_n hx hb dX11_advance_143 rfl (lv_at hl 1 rfl) ?_
                  refine j7_read hx hb hown hK (C := RX1) (T := TX1) (N := 17) rfl hly_3_4 hlk_168 (hh_241.at 3 rfl) dX11_advance_144 ?_
                  refine lv_icmp_ne (tgt := 156) hx hb dX11_advance_147 (by decide) (fun c_242 => ?_) (fun c_242 => ?_)
                  · skip
                    have c_242' : qk_212.toInt ≠ ps_35.toInt := jb_ne (rfl) (rfl) c_242
                    refine lv_aload_n hx hb dX11_advance_156 rfl (lv_at hl 2 rfl) ?_
                    have hsz_243 := hh_241.2.2.2.2.2.1
                    have htt_243 := hh_241.2.2.2.2.2.2.1
                    refine W.room (fun hrc_243 hrs_243 => ?_)
                    refine va_callv (A0 := jA base) (H0 := s.heap) (va_runV (As := []) (rest := []) ⟨hx, hb, hml, hown, hts⟩ (uX11_answerReady l dC dI ca base B hB hAp hB1 hB2 hB3 hB4 hB5 hB7 hB8 hB9 hB10 hB11 hB13 hB101 hB102 hB132 hB196 hB210 hB214 hB222 hB280 hB286 hB287 hB288 hB313 G_214 H_237 r0 bo pc pa n_pa ou wl LC LS) (cwV 0 hts (jgV (jWr_89 _ (List.mem_of_getElem? (i := 12) rfl)) (jWr_89 _ (List.mem_of_getElem? (i := 13) rfl)) (jWr_89 _ (List.mem_of_getElem? (i := 14) rfl)) (jWr_1 _ (List.mem_of_getElem? (i := 2) rfl)) (jWr_89 _ (List.mem_of_getElem? (i := 15) rfl))) rfl rfl rfl (by decide +kernel) ⟨by rw [← hR]; exact Nat.le_of_ble_eq_true rfl, by rw [← hR]; exact Nat.le_of_ble_eq_true rfl⟩) ⟨fun a U g mk q => by obtain ⟨q0, q1, q2, qK, q10, q11, q12, q13, q14, q15, q16, q17, q18, q19⟩ := q; exact ⟨q0, q1, q2, jG.calling g mk a qK, (va_K.moved (Vm.Alike.refl U.vm) q10), (jK5.moved (Vm.Alike.refl U.vm) q11), (jK7.calling g mk a q12), q13, q14, q15, q16, q17, q18, q19⟩, hh_241.recv (C := RX11) (T := TX11) (N := 19) hB13 rfl (by decide) hg_218 hK, fun U hU hW => ⟨rfl, hU, hh_241.2.1, hG.step hW hU hh_241.1, va_K.moved hW.alike hK2, jK5.moved hW.alike hK5, (hK7.step hW hU hh_241.1), hg_218, hg_223, hg_224, hg_225, (hh_241.2.2.1.sub (L1 := [(r0, 13, 4, .ref bo), (bo, 2, 1, .int pc), (bo, 2, 0, .ref pa), (r0, 13, 3, .ref ou)]) [7, 8, 9, 10] rfl), (hh_241.2.2.2.2.2.2.2.2.sub (L1 := [(jFy, jYb dC dI G_214), (jFs11, jSef dC dI G_214), (jFl, jLs dC dI ca G_214 3 none wl)]) [2, 3, 1] rfl), (by omega), (by omega), ⟨(by first | (with_reducible assumption) | omega | rfl | fail), (by first | (with_reducible assumption) | omega | rfl | fail), (by first | (with_reducible assumption) | omega | rfl | fail), (by first | (with_reducible assumption) | omega | rfl | fail), (by first | assumption | fail | omega)⟩⟩⟩ rfl rfl hl.1 rfl (lv_room (Nat.le_of_ble_eq_true rfl)) dX11_advance_157 ⟨by rw [hRc]; omega, by rw [hRs]; omega⟩) hh_241.1 (fun q _ h => h) (fun q h => h) (fun u_243 t_243 H_243 locs_243 ht_243 hvm_243 hr_244 hb_243 hz_243 hk_243 hS_243 => ?_)
                    obtain ⟨qc_243, qa_243, m_qa_243, G_243⟩ := u_243
                    rw [ht_243] at hb_243
                    simp only at hb_243
                    obtain ⟨⟨hb_2431, hb_2432, hb_2433, hb_2434, hb_2435, hb_2436⟩, hgq_243_0, hN_243, hbO_243, hbE_243⟩ := hb_243
                    have hM_243 := hN_243
                    have hN_243 : (jNk [0, 1, 2, 3, 4, 6, 7, 8, 9, 10, 12, 13, 14, 15, 16]) G_214 G_243 := hN_243.sub (by decide)
                    have hh_243 : jSt (dC, dI) B base G0 G_243 EX11_advance s.heap (((0 + (1)) + (1)) + ((m_qa_243 - n_pa) / 16)) (((0 + ((jSo fe_35 (pk_35.toInt : Int) - jSo fb_35 (pk_35.toInt : Int)).toNat)) + (40)) + (2 * (m_qa_243 - n_pa))) [(bo, 2, 1, .int qc_243), (bo, 2, 0, .ref qa_243), (ret_14, 3, 11, .null), (ret_14, 3, 10, .int qk_212), (r0, 13, 13, .int z_210), (ret_14, 3, 4, .int ps_35), (ret_14, 3, 5, .ref yb_35), (ret_14, 3, 6, .ref ye_35), (r0, 13, 10, .ref hands_4), (r0, 13, 4, .ref bo), (r0, 13, 3, .ref ou)] [(yb_35, 171, 40, ca 1, fb_35), (ye_35, 172, 40, ca 1, fe_35)] [(jFdo, jDcc dC dI ca G_214 none phn_239)] H_243 locs_243 := (hh_241.callG hb_2431 hb_2432 hb_2433 hb_2434 hb_2435 hS_243 rfl (L1 := [(ret_14, 3, 11, .null), (ret_14, 3, 10, .int qk_212), (r0, 13, 13, .int z_210), (ret_14, 3, 4, .int ps_35), (ret_14, 3, 5, .ref yb_35), (ret_14, 3, 6, .ref ye_35), (r0, 13, 10, .ref hands_4), (r0, 13, 4, .ref bo), (r0, 13, 3, .ref ou)]) [0, 1, 2, 3, 4, 5, 6, 7, 10] rfl rfl (M1 := [(yb_35, 171, 40, ca 1, fb_35), (ye_35, 172, 40, ca 1, fe_35)]) [0, 1] rfl rfl (I1 := [(jFdo, jDcc dC dI ca G_214 none phn_239)]) [0] rfl rfl).more hb_2436
                    have hNn_243 : (jNk [0, 1, 2, 3, 4, 6, 7, 8, 9, 10, 12, 13, 14, 15, 16]) G0 G_243 := (hNn_214).tr hN_243
                    have hg_245 := hb_2432 _ _ hg_216
                    have hg_246 := hb_2432 _ _ hg_217
                    have hg_247 := hb_2432 _ _ hg_218
                    have hg_248 := hb_2432 _ _ hg_220
                    have hg_249 := hb_2432 _ _ hg_221
                    have hg_250 := hb_2432 _ _ hg_222
                    have hg_251 := hb_2432 _ _ hg_223
                    have hg_252 := hb_2432 _ _ hg_225
                    have hd_253 := jDcc.grow (hh_243.iv 0 rfl) hb_2432 hN_243 (by decide)
                    have hh_254 := hh_243.sub (L1 := [(bo, 2, 1, .int qc_243), (bo, 2, 0, .ref qa_243), (ret_14, 3, 11, .null), (ret_14, 3, 10, .int qk_212), (r0, 13, 13, .int z_210), (ret_14, 3, 4, .int ps_35), (ret_14, 3, 5, .ref yb_35), (ret_14, 3, 6, .ref ye_35), (r0, 13, 10, .ref hands_4), (r0, 13, 4, .ref bo), (r0, 13, 3, .ref ou)]) [0, 1, 2, 3, 4, 5, 6, 7, 8, 9, 10] rfl (M1 := [(yb_35, 171, 40, ca 1, fb_35), (ye_35, 172, 40, ca 1, fe_35)]) [0, 1] rfl (I1 := []) [] rfl
                    clear hh_243
                    have hh_255 := hh_254.addI (jDcc.ie hd_253)
                    clear hh_254
                    have hh_256 := hh_255.addIs hbE_243
                    have hd_257 := jOl.trL (hh_241.iv 4 rfl) hh_241.2.2.2.2.1 hbO_243 (by simp)
                    have hh_258 := hh_256.addI (jOl.ie (dC := dC) (dI := dI) (G0 := G0) (k := 2) (rs := [bo, ou]) (H0 := s.heap) (F := [(2, 0), (2, 1)]) (C := RX0) (T := TX0) (N := 2) rfl (by decide) hh_256.2.2.2.2.1 (hd_257))
                    clear hh_256
                    try simp only at hr_244
                    obtain ⟨hr_244_0, hr_244_1, hr_244_2, hr_244_3, hr_244_4⟩ := hr_244
                    have hsz_259 := hh_258.2.2.2.2.2.1
                    have htt_259 := hh_258.2.2.2.2.2.2.1
                    refine W.room (fun hrc_259 hrs_259 => ?_)
                    refine W.widen (k := LC - s.heap.size) (n := LS - jTot s.heap) (by omega) (by omega) ?_
                    rw [hQ]
                    exact W.vret hx hb hr (fun t ht hW => ⟨⟨(qc_243, qa_243, m_qa_243, phn_239, G_243), rfl, by (try dsimp only); exact ⟨(by first | (with_reducible assumption) | omega | rfl | fail), (by first | (with_reducible assumption) | omega | rfl | fail), (by first | (with_reducible assumption) | omega | rfl | fail), (by first | (with_reducible assumption) | omega | rfl | fail), (by first | assumption | fail | omega), (by first | (with_reducible assumption) | omega | rfl | fail)⟩, ⟨hh_258.ra (by first | (simp only; omega) | omega) (by first | (simp only; omega) | omega) (M1 := [(bo, 2, 1, .int qc_243), (bo, 2, 0, .ref qa_243)]) [0, 1] rfl ht, hgq_243_0, hNn_243, by rw [ht]; exact hh_258.iv 0 rfl, by rw [ht]; exact hh_258.2.2.2.2.2.2.2.2.sub (L1 := [(jFy, jYb dC dI G_243), (jFs11, jSef dC dI G_243), (jFl, jLs dC dI ca G_243 3 none wl), (jFdo, jDcc dC dI ca G_243 none phn_239)]) [1, 2, 3, 4] rfl⟩⟩, by rw [ht]; try exact hh_258.1.1, fun q h9 hq => by rw [ht]; try exact hh_258.1.2.1 q h9 hq⟩) hh_258.1.2.2 dX11_advance_160
                  · skip
                    have c_242' : qk_212.toInt = ps_35.toInt := jb_ne_n (rfl) (rfl) c_242
                    first | (have hr_213q := hr_213.resolve_left (by omega); clear hr_213) | (have hr_213q := hr_213.resolve_right (by omega); clear hr_213) | skip
                    refine lv_aload_n hx hb dX11_advance_150 rfl (lv_at hl 2 rfl) ?_
                    refine lv_aload_n hx hb dX11_advance_151 rfl (lv_at hl 1 rfl) ?_
                    refine lv_iconst (v := 1) hx hb dX11_advance_152 (by decide) ?_
                    have hsz_260 := hh_241.2.2.2.2.2.1
                    have htt_260 := hh_241.2.2.2.2.2.2.1
                    refine W.room (fun hrc_260 hrs_260 => ?_)
                    refine va_callv (A0 := jA base) (H0 := s.heap) (va_runV (As := [.ref ret_14, .int 1]) (rest := []) ⟨hx, hb, hml, hown, hts⟩ (uX11_publish l dC dI ca base B hB hAp hB2 hB3 hB4 hB11 hB13 hB101 hB171 hB172 hB173 hB174 hB196 hB210 G_214 H_237 r0 ret_14 1 bo pc pa n_pa ou LC LS) (cwV 2 hts (jgV (jWr_39 _ (List.mem_of_getElem? (i := 19) rfl)) (jWr_39 _ (List.mem_of_getElem? (i := 20) rfl)) (jWr_39 _ (List.mem_of_getElem? (i := 21) rfl)) (jWr_1 _ (List.mem_of_getElem? (i := 2) rfl)) (jWr_39 _ (List.mem_of_getElem? (i := 22) rfl))) rfl rfl rfl (by decide +kernel) ⟨by rw [← hR]; exact Nat.le_of_ble_eq_true rfl, by rw [← hR]; exact Nat.le_of_ble_eq_true rfl⟩) ⟨fun a U g mk q => by obtain ⟨q0, q1, q2, qK, q10, q11, q12, q13, q14, q15, q16, q17, q18, q19⟩ := q; exact ⟨q0, q1, q2, jG.calling g mk a qK, (va_K.moved (Vm.Alike.refl U.vm) q10), q11, q12, q13, q14, q15, q16, q17, q18, q19⟩, hh_241.recv (C := RX11) (T := TX11) (N := 19) hB13 rfl (by decide) hg_218 hK, fun U hU hW => ⟨rfl, hU, hh_241.2.1, hG.step hW hU hh_241.1, va_K.moved hW.alike hK2, hg_217, hg_218, (Or.inr rfl), hg_223, hg_224, hg_225, (hh_241.2.2.1.sub (L1 := [(r0, 13, 4, .ref bo), (bo, 2, 1, .int pc), (bo, 2, 0, .ref pa), (r0, 13, 3, .ref ou)]) [7, 8, 9, 10] rfl), (hh_241.2.2.2.2.2.2.2.2.sub (L1 := [(jFy, jYb dC dI G_214)]) [2] rfl), (by omega), (by omega), ⟨(by first | (with_reducible assumption) | omega | rfl | fail), (by first | (with_reducible assumption) | omega | rfl | fail), (by first | (with_reducible assumption) | omega | rfl | fail), (by first | (with_reducible assumption) | omega | rfl | fail), (by first | assumption | fail | omega)⟩⟩⟩ rfl rfl hl.1 rfl (lv_room (Nat.le_of_ble_eq_true rfl)) dX11_advance_153 ⟨by rw [hRc]; omega, by rw [hRs]; omega⟩) hh_241.1 (fun q _ h => h) (fun q h => h) (fun u_260 t_260 H_260 locs_260 ht_260 hvm_260 hr_261 hb_260 hz_260 hk_260 hS_260 => ?_)
                    obtain ⟨qc_260, qa_260, m_qa_260, G_260⟩ := u_260
                    rw [ht_260] at hb_260
                    simp only at hb_260
                    obtain ⟨⟨hb_2601, hb_2602, hb_2603, hb_2604, hb_2605, hb_2606⟩, hgq_260_0, hN_260, hbO_260, hbE_260⟩ := hb_260
                    have hM_260 := hN_260
                    have hN_260 : (jNk [0, 1, 2, 3, 4, 6, 7, 8, 9, 10, 12, 13, 14, 15, 16]) G_214 G_260 := hN_260.sub (by decide)
                    have hh_260 : jSt (dC, dI) B base G0 G_260 EX11_advance s.heap (((0 + (1)) + (1)) + ((m_qa_260 - n_pa) / 16)) (((0 + ((jSo fe_35 (pk_35.toInt : Int) - jSo fb_35 (pk_35.toInt : Int)).toNat)) + (40)) + (2 * (m_qa_260 - n_pa))) [(bo, 2, 1, .int qc_260), (bo, 2, 0, .ref qa_260), (ret_14, 3, 11, .null), (ret_14, 3, 10, .int qk_212), (r0, 13, 13, .int z_210), (ret_14, 3, 4, .int ps_35), (ret_14, 3, 5, .ref yb_35), (ret_14, 3, 6, .ref ye_35), (r0, 13, 10, .ref hands_4), (r0, 13, 4, .ref bo), (r0, 13, 3, .ref ou)] [(yb_35, 171, 40, ca 1, fb_35), (ye_35, 172, 40, ca 1, fe_35)] [(jFdo, jDcc dC dI ca G_214 none phn_239), (jFl, jLs dC dI ca G_214 3 none wl), (jFs11, jSef dC dI G_214)] H_260 locs_260 := (hh_241.callG hb_2601 hb_2602 hb_2603 hb_2604 hb_2605 hS_260 rfl (L1 := [(ret_14, 3, 11, .null), (ret_14, 3, 10, .int qk_212), (r0, 13, 13, .int z_210), (ret_14, 3, 4, .int ps_35), (ret_14, 3, 5, .ref yb_35), (ret_14, 3, 6, .ref ye_35), (r0, 13, 10, .ref hands_4), (r0, 13, 4, .ref bo), (r0, 13, 3, .ref ou)]) [0, 1, 2, 3, 4, 5, 6, 7, 10] rfl rfl (M1 := [(yb_35, 171, 40, ca 1, fb_35), (ye_35, 172, 40, ca 1, fe_35)]) [0, 1] rfl rfl (I1 := [(jFdo, jDcc dC dI ca G_214 none phn_239), (jFl, jLs dC dI ca G_214 3 none wl), (jFs11, jSef dC dI G_214)]) [0, 1, 3] rfl rfl).more hb_2606
                    have hNn_260 : (jNk [0, 1, 2, 3, 4, 6, 7, 8, 9, 10, 12, 13, 14, 15, 16]) G0 G_260 := (hNn_214).tr hN_260
                    have hg_262 := hb_2602 _ _ hg_216
                    have hg_263 := hb_2602 _ _ hg_217
                    have hg_264 := hb_2602 _ _ hg_218
                    have hg_265 := hb_2602 _ _ hg_220
                    have hg_266 := hb_2602 _ _ hg_221
                    have hg_267 := hb_2602 _ _ hg_222
                    have hg_268 := hb_2602 _ _ hg_223
                    have hg_269 := hb_2602 _ _ hg_225
                    have hd_270 := jDcc.grow (hh_260.iv 0 rfl) hb_2602 hN_260 (by decide)
                    have hh_271 := hh_260.sub (L1 := [(bo, 2, 1, .int qc_260), (bo, 2, 0, .ref qa_260), (ret_14, 3, 11, .null), (ret_14, 3, 10, .int qk_212), (r0, 13, 13, .int z_210), (ret_14, 3, 4, .int ps_35), (ret_14, 3, 5, .ref yb_35), (ret_14, 3, 6, .ref ye_35), (r0, 13, 10, .ref hands_4), (r0, 13, 4, .ref bo), (r0, 13, 3, .ref ou)]) [0, 1, 2, 3, 4, 5, 6, 7, 8, 9, 10] rfl (M1 := [(yb_35, 171, 40, ca 1, fb_35), (ye_35, 172, 40, ca 1, fe_35)]) [0, 1] rfl (I1 := [(jFl, jLs dC dI ca G_214 3 none wl), (jFs11, jSef dC dI G_214)]) [1, 2] rfl
                    clear hh_260
                    have hh_272 := hh_271.addI (jDcc.ie hd_270)
                    clear hh_271
                    have hd_273 := jLs.grow (hh_272.iv 1 rfl) hb_2602 hN_260 (by decide)
                    have hh_274 := hh_272.sub (L1 := [(bo, 2, 1, .int qc_260), (bo, 2, 0, .ref qa_260), (ret_14, 3, 11, .null), (ret_14, 3, 10, .int qk_212), (r0, 13, 13, .int z_210), (ret_14, 3, 4, .int ps_35), (ret_14, 3, 5, .ref yb_35), (ret_14, 3, 6, .ref ye_35), (r0, 13, 10, .ref hands_4), (r0, 13, 4, .ref bo), (r0, 13, 3, .ref ou)]) [0, 1, 2, 3, 4, 5, 6, 7, 8, 9, 10] rfl (M1 := [(yb_35, 171, 40, ca 1, fb_35), (ye_35, 172, 40, ca 1, fe_35)]) [0, 1] rfl (I1 := [(jFdo, jDcc dC dI ca G_260 none phn_239), (jFs11, jSef dC dI G_214)]) [0, 2] rfl
                    clear hh_272
                    have hh_275 := hh_274.addI (jLs.ie hd_273)
                    clear hh_274
                    have hd_276 := jSef.grow (hh_275.iv 2 rfl) hb_2602 hM_260 (by decide)
                    have hh_277 := hh_275.sub (L1 := [(bo, 2, 1, .int qc_260), (bo, 2, 0, .ref qa_260), (ret_14, 3, 11, .null), (ret_14, 3, 10, .int qk_212), (r0, 13, 13, .int z_210), (ret_14, 3, 4, .int ps_35), (ret_14, 3, 5, .ref yb_35), (ret_14, 3, 6, .ref ye_35), (r0, 13, 10, .ref hands_4), (r0, 13, 4, .ref bo), (r0, 13, 3, .ref ou)]) [0, 1, 2, 3, 4, 5, 6, 7, 8, 9, 10] rfl (M1 := [(yb_35, 171, 40, ca 1, fb_35), (ye_35, 172, 40, ca 1, fe_35)]) [0, 1] rfl (I1 := [(jFl, jLs dC dI ca G_260 3 none wl), (jFdo, jDcc dC dI ca G_260 none phn_239)]) [0, 1] rfl
                    clear hh_275
                    have hh_278 := hh_277.addI (jSef.ie hd_276)
                    clear hh_277
                    have hh_279 := hh_278.addIs hbE_260
                    have hd_280 := jOl.trL (hh_241.iv 4 rfl) hh_241.2.2.2.2.1 hbO_260 (by simp)
                    have hh_281 := hh_279.addI (jOl.ie (dC := dC) (dI := dI) (G0 := G0) (k := 2) (rs := [bo, ou]) (H0 := s.heap) (F := [(2, 0), (2, 1)]) (C := RX0) (T := TX0) (N := 2) rfl (by decide) hh_279.2.2.2.2.1 (hd_280))
                    clear hh_279
                    try simp only at hr_261
                    obtain ⟨hr_261_0, hr_261_1, hr_261_2, hr_261_3, hr_261_4⟩ := hr_261
                    refine lv_aload_n hx hb dX11_advance_156 rfl (lv_at hl 2 rfl) ?_
                    have hsz_282 := hh_281.2.2.2.2.2.1
                    have htt_282 := hh_281.2.2.2.2.2.2.1
                    refine W.room (fun hrc_282 hrs_282 => ?_)
                    refine va_callv (A0 := jA base) (H0 := s.heap) (va_runV (As := []) (rest := []) ⟨hx, hb, hml, hown, hts⟩ (uX11_answerReady l dC dI ca base B hB hAp hB1 hB2 hB3 hB4 hB5 hB7 hB8 hB9 hB10 hB11 hB13 hB101 hB102 hB132 hB196 hB210 hB214 hB222 hB280 hB286 hB287 hB288 hB313 G_260 H_260 r0 bo qc_260 qa_260 m_qa_260 ou wl LC LS) (cwV 0 hts (jgV (jWr_89 _ (List.mem_of_getElem? (i := 12) rfl)) (jWr_89 _ (List.mem_of_getElem? (i := 13) rfl)) (jWr_89 _ (List.mem_of_getElem? (i := 14) rfl)) (jWr_1 _ (List.mem_of_getElem? (i := 2) rfl)) (jWr_89 _ (List.mem_of_getElem? (i := 15) rfl))) rfl rfl rfl (by decide +kernel) ⟨by rw [← hR]; exact Nat.le_of_ble_eq_true rfl, by rw [← hR]; exact Nat.le_of_ble_eq_true rfl⟩) ⟨fun a U g mk q => by obtain ⟨q0, q1, q2, qK, q10, q11, q12, q13, q14, q15, q16, q17, q18, q19⟩ := q; exact ⟨q0, q1, q2, jG.calling g mk a qK, (va_K.moved (Vm.Alike.refl U.vm) q10), (jK5.moved (Vm.Alike.refl U.vm) q11), (jK7.calling g mk a q12), q13, q14, q15, q16, q17, q18, q19⟩, hh_281.recv (C := RX11) (T := TX11) (N := 19) hB13 rfl (by decide) hg_264 hK, fun U hU hW => ⟨rfl, hU, hh_281.2.1, hG.step hW hU hh_281.1, va_K.moved hW.alike hK2, jK5.moved hW.alike hK5, (hK7.step hW hU hh_281.1), hg_264, hg_268, hgq_260_0, hg_269, (hh_281.2.2.1.sub (L1 := [(r0, 13, 4, .ref bo), (bo, 2, 1, .int qc_260), (bo, 2, 0, .ref qa_260), (r0, 13, 3, .ref ou)]) [9, 0, 1, 10] rfl), (hh_281.2.2.2.2.2.2.2.2.sub (L1 := [(jFy, jYb dC dI G_260), (jFs11, jSef dC dI G_260), (jFl, jLs dC dI ca G_260 3 none wl)]) [1, 2, 3] rfl), (by omega), (by omega), ⟨(by first | (with_reducible assumption) | omega | rfl | fail), (by first | (with_reducible assumption) | omega | rfl | fail), (by first | (with_reducible assumption) | omega | rfl | fail), (by first | (with_reducible assumption) | omega | rfl | fail), (by first | assumption | fail | omega)⟩⟩⟩ rfl rfl hl.1 rfl (lv_room (Nat.le_of_ble_eq_true rfl)) dX11_advance_157 ⟨by rw [hRc]; omega, by rw [hRs]; omega⟩) hh_281.1 (fun q _ h => h) (fun q h => h) (fun u_282 t_282 H_282 locs_282 ht_282 hvm_282 hr_283 hb_282 hz_282 hk_282 hS_282 => ?_)
                    obtain ⟨qc_282, qa_282, m_qa_282, G_282⟩ := u_282
                    rw [ht_282] at hb_282
                    simp only at hb_282
                    obtain ⟨⟨hb_2821, hb_2822, hb_2823, hb_2824, hb_2825, hb_2826⟩, hgq_282_0, hN_282, hbO_282, hbE_282⟩ := hb_282
                    have hM_282 := hN_282
                    have hN_282 : (jNk [0, 1, 2, 3, 4, 6, 7, 8, 9, 10, 12, 13, 14, 15, 16]) G_260 G_282 := hN_282.sub (by decide)
                    have hh_282 : jSt (dC, dI) B base G0 G_282 EX11_advance s.heap ((((0 + (1)) + (1)) + ((m_qa_260 - n_pa) / 16)) + ((m_qa_282 - m_qa_260) / 16)) ((((0 + ((jSo fe_35 (pk_35.toInt : Int) - jSo fb_35 (pk_35.toInt : Int)).toNat)) + (40)) + (2 * (m_qa_260 - n_pa))) + (2 * (m_qa_282 - m_qa_260))) [(bo, 2, 1, .int qc_282), (bo, 2, 0, .ref qa_282), (ret_14, 3, 11, .null), (ret_14, 3, 10, .int qk_212), (r0, 13, 13, .int z_210), (ret_14, 3, 4, .int ps_35), (ret_14, 3, 5, .ref yb_35), (ret_14, 3, 6, .ref ye_35), (r0, 13, 10, .ref hands_4), (r0, 13, 4, .ref bo), (r0, 13, 3, .ref ou)] [(yb_35, 171, 40, ca 1, fb_35), (ye_35, 172, 40, ca 1, fe_35)] [(jFdo, jDcc dC dI ca G_260 none phn_239)] H_282 locs_282 := (hh_281.callG hb_2821 hb_2822 hb_2823 hb_2824 hb_2825 hS_282 rfl (L1 := [(ret_14, 3, 11, .null), (ret_14, 3, 10, .int qk_212), (r0, 13, 13, .int z_210), (ret_14, 3, 4, .int ps_35), (ret_14, 3, 5, .ref yb_35), (ret_14, 3, 6, .ref ye_35), (r0, 13, 10, .ref hands_4), (r0, 13, 4, .ref bo), (r0, 13, 3, .ref ou)]) [2, 3, 4, 5, 6, 7, 8, 9, 10] rfl rfl (M1 := [(yb_35, 171, 40, ca 1, fb_35), (ye_35, 172, 40, ca 1, fe_35)]) [0, 1] rfl rfl (I1 := [(jFdo, jDcc dC dI ca G_260 none phn_239)]) [4] rfl rfl).more hb_2826
                    have hNn_282 : (jNk [0, 1, 2, 3, 4, 6, 7, 8, 9, 10, 12, 13, 14, 15, 16]) G0 G_282 := (hNn_260).tr hN_282
                    have hg_284 := hb_2822 _ _ hg_262
                    have hg_285 := hb_2822 _ _ hg_263
                    have hg_286 := hb_2822 _ _ hg_264
                    have hg_287 := hb_2822 _ _ hg_265
                    have hg_288 := hb_2822 _ _ hg_266
                    have hg_289 := hb_2822 _ _ hg_267
                    have hg_290 := hb_2822 _ _ hg_268
                    have hg_291 := hb_2822 _ _ hg_269
                    have hd_292 := jDcc.grow (hh_282.iv 0 rfl) hb_2822 hN_282 (by decide)
                    have hh_293 := hh_282.sub (L1 := [(bo, 2, 1, .int qc_282), (bo, 2, 0, .ref qa_282), (ret_14, 3, 11, .null), (ret_14, 3, 10, .int qk_212), (r0, 13, 13, .int z_210), (ret_14, 3, 4, .int ps_35), (ret_14, 3, 5, .ref yb_35), (ret_14, 3, 6, .ref ye_35), (r0, 13, 10, .ref hands_4), (r0, 13, 4, .ref bo), (r0, 13, 3, .ref ou)]) [0, 1, 2, 3, 4, 5, 6, 7, 8, 9, 10] rfl (M1 := [(yb_35, 171, 40, ca 1, fb_35), (ye_35, 172, 40, ca 1, fe_35)]) [0, 1] rfl (I1 := []) [] rfl
                    clear hh_282
                    have hh_294 := hh_293.addI (jDcc.ie hd_292)
                    clear hh_293
                    have hh_295 := hh_294.addIs hbE_282
                    have hd_296 := jOl.trL (hh_281.iv 0 rfl) hh_281.2.2.2.2.1 hbO_282 (by simp)
                    have hh_297 := hh_295.addI (jOl.ie (dC := dC) (dI := dI) (G0 := G0) (k := 2) (rs := [bo, ou]) (H0 := s.heap) (F := [(2, 0), (2, 1)]) (C := RX0) (T := TX0) (N := 2) rfl (by decide) hh_295.2.2.2.2.1 (hd_296))
                    clear hh_295
                    try simp only at hr_283
                    obtain ⟨hr_283_0, hr_283_1, hr_283_2, hr_283_3, hr_283_4⟩ := hr_283
                    have hsz_298 := hh_297.2.2.2.2.2.1
                    have htt_298 := hh_297.2.2.2.2.2.2.1
                    refine W.room (fun hrc_298 hrs_298 => ?_)
                    refine W.widen (k := LC - s.heap.size) (n := LS - jTot s.heap) (by omega) (by omega) ?_
                    rw [hQ]
                    exact W.vret hx hb hr (fun t ht hW => ⟨⟨(qc_282, qa_282, m_qa_282, phn_239, G_282), rfl, by (try dsimp only); exact ⟨(by first | (with_reducible assumption) | omega | rfl | fail), (by first | (with_reducible assumption) | omega | rfl | fail), (by first | (with_reducible assumption) | omega | rfl | fail), (by first | (with_reducible assumption) | omega | rfl | fail), (by first | assumption | fail | omega), (by first | (with_reducible assumption) | omega | rfl | fail)⟩, ⟨hh_297.ra (by first | (simp only; omega) | omega) (by first | (simp only; omega) | omega) (M1 := [(bo, 2, 1, .int qc_282), (bo, 2, 0, .ref qa_282)]) [0, 1] rfl ht, hgq_282_0, hNn_282, by rw [ht]; exact hh_297.iv 0 rfl, by rw [ht]; exact hh_297.2.2.2.2.2.2.2.2.sub (L1 := [(jFy, jYb dC dI G_282), (jFs11, jSef dC dI G_282), (jFl, jLs dC dI ca G_282 3 none wl), (jFdo, jDcc dC dI ca G_282 none phn_239)]) [1, 2, 3, 4] rfl⟩⟩, by rw [ht]; try exact hh_297.1.1, fun q h9 hq => by rw [ht]; try exact hh_297.1.2.1 q h9 hq⟩) hh_297.1.2.2 dX11_advance_160
          · exact absurd hxn_35 (fun q => by cases q)
  · simp only [va_rf]
    refine lv_ifnonnull (tgt := 39) hx hb dX11_advance_6 (by decide) ?_
    refine lv_aload_n hx hb dX11_advance_39 rfl (lv_at hl 0 rfl) ?_
    refine j7_read hx hb hown hK (C := RX11) (T := TX11) (N := 19) rfl hly_13_10 hlk_73 (hh_6.at 0 rfl) dX11_advance_40 ?_
    refine lv_iload_n hx hb dX11_advance_43 rfl (lv_at hl 1 rfl) ?_
    refine j7_qaldI hx hb hK2 hh_6 hB212 1 rfl (by decide) hg_hands_4 (x := a1.toInt) (rfl) (by omega) (hh_6.iv 0 rfl) dX11_advance_44 (fun o_299 ho_299 heo_299 => ?_)
    rcases ho_299 with rfl | ⟨el_300, rfl, hg_el_300⟩
    · simp only [va_rf]
      exact absurd (heo_299.trans heo_7.symm) (by simp)
    · simp only [va_rf]
      obtain rfl : el_8 = el_300 := (Option.some.inj (heo_299.trans heo_7.symm)).symm
      refine lv_astore_n (lv' := [(2, .ref el_8), (0, .ref r0), (1, .int a1)]) hx hb dX11_advance_45 rfl hl (by decide) rfl (fun ls hl => ?_)
      obtain ⟨yb_301, ye_301, w_301, pho_301, fb_301, fe_301, ps_301, pk_301, vc_301, hgb_301, hge_301, h5_301, h6_301, hd_301, hpq_301, hE_301, hpl_301, hpw_301⟩ := jDcc.opn (hh_6.iv 5 rfl) hg_el_300
      have hpw_301 := hpw_301 rfl
      have hh_303 := hh_6.sub (L1 := [(r0, 13, 10, .ref hands_4), (r0, 13, 4, .ref bo), (bo, 2, 1, .int pc), (bo, 2, 0, .ref pa), (r0, 13, 3, .ref ou)]) [0, 1, 2, 3, 4] rfl (M1 := []) [] rfl (I1 := [([(212, 0)], jQc dC dI (ca 5) hands_4 2 fq_5), ([(2, 0), (2, 1)], jOl (dC, dI) G0 2 [bo, ou] s.heap), (jFy, jYb dC dI G0), (jFs11, jSef dC dI G0), (jFl, jLs dC dI ca G0 3 none wl)]) [0, 1, 2, 3, 4] rfl
      clear hh_6
      have hh_304 := (hh_303.more (P1 := [(el_8, 3, 4, .int ps_301), (el_8, 3, 10, .int pk_301), (el_8, 3, 5, .ref yb_301), (el_8, 3, 6, .ref ye_301)]) (jP.cons hg_el_300 (hd_301.1 _ (List.mem_of_getElem? (i := 0) rfl)).2 (jP.cons hg_el_300 (hd_301.1 _ (List.mem_of_getElem? (i := 1) rfl)).2 (jP.cons hg_el_300 h5_301 (jP.cons hg_el_300 h6_301 jP.nil))))).moreM hd_301.2.1
      have hh_305 := hh_304.addI (jDcc.ie hE_301)
      clear hh_304
      have hps_301 := hd_301.2.2.2
      have hsn_301 := hd_301.2.2.1
      obtain ⟨v_306, hv_306, hh_301⟩ := hh_305.pin (C := RX1) (T := TX1) (N := 17) hB3 rfl (by decide) hg_el_300 (i := 11) (by decide) rfl
      have hvq_301 : vc_301 = v_306 := jf.uniq (hd_301.1 _ (List.mem_of_getElem? (i := 2) rfl)).2 (hh_301.at 0 rfl)
      subst hvq_301
      clear hh_305
      rcases hv_306 with rfl | ⟨chk_307, nchk_307, rfl, hg_chk_307, hlen_chk_307⟩
      · have hpo_301 := jPo.nul (hpq_301 rfl)
        refine lv_aload_n hx hb dX11_advance_46 rfl (lv_at hl 0 rfl) ?_
        refine lv_dup hx hb dX11_advance_47 rfl ?_
        obtain ⟨v_309, hv_309, hh_310⟩ := hh_301.pin (C := RX1) (T := TX1) (N := 17) hB3 rfl (by decide) hg_el_300 (i := 13) (by decide) rfl
        clear hh_301
        obtain ⟨left_311, rfl⟩ := hv_309
        refine j7_read hx hb hown hK (C := RX1) (T := TX1) (N := 17) rfl hly_3_13 hlk_577 (hh_310.at 0 rfl) dX11_advance_48 ?_
        refine lv_iconst (v := 1) hx hb dX11_advance_51 (by decide) ?_
        refine lv_isub hx hb dX11_advance_52 ?_
        refine lv_topi (fun z_312 ez_312 => ?_)
        refine j7_put hx hb hown hK hh_310 hB hAp hB3 (C := RX1) (T := TX1) (N := 17) rfl (by decide) hg_el_300 (i := 13) (by decide) hly_3_13 rfl hlk_577 rfl (ty := .int) (v := .int z_312) (by decide +kernel) rfl rfl (⟨_, rfl⟩) rfl (L1 := [(el_8, 3, 11, .null), (el_8, 3, 4, .int ps_301), (el_8, 3, 10, .int pk_301), (el_8, 3, 5, .ref yb_301), (el_8, 3, 6, .ref ye_301), (r0, 13, 10, .ref hands_4), (r0, 13, 4, .ref bo), (bo, 2, 1, .int pc), (bo, 2, 0, .ref pa), (r0, 13, 3, .ref ou)]) [1, 2, 3, 4, 5, 6, 7, 8, 9, 10] rfl rfl rfl dX11_advance_53 (fun H_313 locs_313 hh_313 => ?_)
        clear hh_310
        refine lv_aload_n hx hb dX11_advance_56 rfl (lv_at hl 0 rfl) ?_
        refine j7_read hx hb hown hK (C := RX1) (T := TX1) (N := 17) rfl hly_3_13 hlk_577 (hh_313.at 0 rfl) dX11_advance_57 ?_
        refine lv_if_gt (tgt := 70) hx hb dX11_advance_60 (by decide) (fun c_314 => ?_) (fun c_314 => ?_)
        · skip
          have c_314' : z_312.toInt > 0 := jb_gt (rfl) ((by decide)) c_314
          obtain ⟨phn_315, hphn_315⟩ : ∃ q : Nat, q = pho_301 + (575 * (ps_301.toInt - pk_301.toInt) + (1500 - jEd fe_301 pk_301.toInt)).toNat := ⟨_, rfl⟩
          have hF_315 := jDcc.full (ph1 := phn_315) (hh_313.iv 0 rfl) hg_el_300 (hh_313.at 4 rfl) (hh_313.at 5 rfl) ⟨(hh_313.2.2.1.sub (L1 := [(el_8, 3, 4, .int ps_301), (el_8, 3, 10, .int pk_301), (el_8, 3, 11, .null)]) [2, 3, 1] rfl), (hh_313.2.2.2.2.2.2.2.1.sub (L1 := [(yb_301, 171, 40, ca 1, fb_301), (ye_301, 172, 40, ca 1, fe_301)]) [0, 1] rfl), hsn_301, by omega⟩ (w := (575 * (ps_301.toInt - pk_301.toInt) + (1500 - jEd fe_301 pk_301.toInt)).toNat) (fun _ => jPo.mkN (by omega)) (by omega) (fun _ => by omega)
          have hh_316 := hh_313.sub (L1 := [(el_8, 3, 13, .int z_312), (el_8, 3, 11, .null), (el_8, 3, 4, .int ps_301), (el_8, 3, 10, .int pk_301), (el_8, 3, 5, .ref yb_301), (el_8, 3, 6, .ref ye_301), (r0, 13, 10, .ref hands_4), (r0, 13, 4, .ref bo), (bo, 2, 1, .int pc), (bo, 2, 0, .ref pa), (r0, 13, 3, .ref ou)]) [0, 1, 2, 3, 4, 5, 6, 7, 8, 9, 10] rfl (M1 := [(yb_301, 171, 40, ca 1, fb_301), (ye_301, 172, 40, ca 1, fe_301)]) [0, 1] rfl (I1 := [([(212, 0)], jQc dC dI (ca 5) hands_4 2 fq_5), ([(2, 0), (2, 1)], jOl (dC, dI) G0 2 [bo, ou] s.heap), (jFy, jYb dC dI G0), (jFs11, jSef dC dI G0), (jFl, jLs dC dI ca G0 3 none wl)]) [1, 2, 3, 4, 5] rfl
          clear hh_313
          have hh_317 := hh_316.addI (jDcc.ie hF_315)
          clear hh_316
          have hsz_318 := hh_317.2.2.2.2.2.1
          have htt_318 := hh_317.2.2.2.2.2.2.1
          refine W.room (fun hrc_318 hrs_318 => ?_)
          refine W.widen (k := LC - s.heap.size) (n := LS - jTot s.heap) (by omega) (by omega) ?_
          rw [hQ]
          exact W.vret hx hb hr (fun t ht hW => ⟨⟨(pc, pa, n_pa, phn_315, G0), rfl, by (try dsimp only); exact ⟨(by first | (with_reducible assumption) | omega | rfl | fail), (by first | (with_reducible assumption) | omega | rfl | fail), (by first | (with_reducible assumption) | omega | rfl | fail), (by first | (with_reducible assumption) | omega | rfl | fail), (by first | assumption | fail | omega), (by first | (with_reducible assumption) | omega | rfl | fail)⟩, ⟨hh_317.ra (by first | (simp only; omega) | omega) (by first | (simp only; omega) | omega) (M1 := [(bo, 2, 1, .int pc), (bo, 2, 0, .ref pa)]) [8, 9] rfl ht, hg_pa, jNk.rf, by rw [ht]; exact hh_317.iv 2 rfl, by rw [ht]; exact hh_317.2.2.2.2.2.2.2.2.sub (L1 := [(jFy, jYb dC dI G0), (jFs11, jSef dC dI G0), (jFl, jLs dC dI ca G0 3 none wl), (jFdo, jDcc dC dI ca G0 none phn_315)]) [3, 4, 5, 0] rfl⟩⟩, by rw [ht]; try exact hh_317.1.1, fun q h9 hq => by rw [ht]; try exact hh_317.1.2.1 q h9 hq⟩) hh_317.1.2.2 dX11_advance_70
        · skip
          have c_314' : z_312.toInt ≤ 0 := jb_gt_n (rfl) ((by decide)) c_314
          refine lv_aload_n hx hb dX11_advance_63 rfl (lv_at hl 0 rfl) ?_
          refine j7_read hx hb hown hK (C := RX1) (T := TX1) (N := 17) rfl hly_3_11 hlk_567 (hh_313.at 1 rfl) dX11_advance_64 ?_
          refine lv_ifnonnullN hx hb dX11_advance_67 ?_
          obtain ⟨phn_319, hphn_319⟩ : ∃ q : Nat, q = pho_301 + (575 * (ps_301.toInt - pk_301.toInt) + (1500 - jEd fe_301 pk_301.toInt)).toNat := ⟨_, rfl⟩
          have hF_319 := jDcc.full (ph1 := phn_319) (hh_313.iv 0 rfl) hg_el_300 (hh_313.at 4 rfl) (hh_313.at 5 rfl) ⟨(hh_313.2.2.1.sub (L1 := [(el_8, 3, 4, .int ps_301), (el_8, 3, 10, .int pk_301), (el_8, 3, 11, .null)]) [2, 3, 1] rfl), (hh_313.2.2.2.2.2.2.2.1.sub (L1 := [(yb_301, 171, 40, ca 1, fb_301), (ye_301, 172, 40, ca 1, fe_301)]) [0, 1] rfl), hsn_301, by omega⟩ (w := (575 * (ps_301.toInt - pk_301.toInt) + (1500 - jEd fe_301 pk_301.toInt)).toNat) (fun _ => jPo.mkN (by omega)) (by omega) (fun _ => by omega)
          have hh_320 := hh_313.sub (L1 := [(el_8, 3, 13, .int z_312), (el_8, 3, 11, .null), (el_8, 3, 4, .int ps_301), (el_8, 3, 10, .int pk_301), (el_8, 3, 5, .ref yb_301), (el_8, 3, 6, .ref ye_301), (r0, 13, 10, .ref hands_4), (r0, 13, 4, .ref bo), (bo, 2, 1, .int pc), (bo, 2, 0, .ref pa), (r0, 13, 3, .ref ou)]) [0, 1, 2, 3, 4, 5, 6, 7, 8, 9, 10] rfl (M1 := [(yb_301, 171, 40, ca 1, fb_301), (ye_301, 172, 40, ca 1, fe_301)]) [0, 1] rfl (I1 := [([(212, 0)], jQc dC dI (ca 5) hands_4 2 fq_5), ([(2, 0), (2, 1)], jOl (dC, dI) G0 2 [bo, ou] s.heap), (jFy, jYb dC dI G0), (jFs11, jSef dC dI G0), (jFl, jLs dC dI ca G0 3 none wl)]) [1, 2, 3, 4, 5] rfl
          clear hh_313
          have hh_321 := hh_320.addI (jDcc.ie hF_319)
          clear hh_320
          have hsz_322 := hh_321.2.2.2.2.2.1
          have htt_322 := hh_321.2.2.2.2.2.2.1
          refine W.room (fun hrc_322 hrs_322 => ?_)
          refine W.widen (k := LC - s.heap.size) (n := LS - jTot s.heap) (by omega) (by omega) ?_
          rw [hQ]
          exact W.vret hx hb hr (fun t ht hW => ⟨⟨(pc, pa, n_pa, phn_319, G0), rfl, by (try dsimp only); exact ⟨(by first | (with_reducible assumption) | omega | rfl | fail), (by first | (with_reducible assumption) | omega | rfl | fail), (by first | (with_reducible assumption) | omega | rfl | fail), (by first | (with_reducible assumption) | omega | rfl | fail), (by first | assumption | fail | omega), (by first | (with_reducible assumption) | omega | rfl | fail)⟩, ⟨hh_321.ra (by first | (simp only; omega) | omega) (by first | (simp only; omega) | omega) (M1 := [(bo, 2, 1, .int pc), (bo, 2, 0, .ref pa)]) [8, 9] rfl ht, hg_pa, jNk.rf, by rw [ht]; exact hh_321.iv 2 rfl, by rw [ht]; exact hh_321.2.2.2.2.2.2.2.2.sub (L1 := [(jFy, jYb dC dI G0), (jFs11, jSef dC dI G0), (jFl, jLs dC dI ca G0 3 none wl), (jFdo, jDcc dC dI ca G0 none phn_319)]) [3, 4, 5, 0] rfl⟩⟩, by rw [ht]; try exact hh_321.1.1, fun q h9 hq => by rw [ht]; try exact hh_321.1.2.1 q h9 hq⟩) hh_321.1.2.2 dX11_advance_70
      · have hpo_301 := jPo.rf (hpq_301 rfl)
        have hnx_301 := jEd.nx hsn_301 (k := pk_301.toInt) (by omega) (by omega)
        refine lv_aload_n hx hb dX11_advance_46 rfl (lv_at hl 0 rfl) ?_
        refine lv_dup hx hb dX11_advance_47 rfl ?_
        obtain ⟨v_324, hv_324, hh_325⟩ := hh_301.pin (C := RX1) (T := TX1) (N := 17) hB3 rfl (by decide) hg_el_300 (i := 13) (by decide) rfl
        clear hh_301
        obtain ⟨left_326, rfl⟩ := hv_324
        refine j7_read hx hb hown hK (C := RX1) (T := TX1) (N := 17) rfl hly_3_13 hlk_577 (hh_325.at 0 rfl) dX11_advance_48 ?_
        refine lv_iconst (v := 1) hx hb dX11_advance_51 (by decide) ?_
        refine lv_isub hx hb dX11_advance_52 ?_
        refine lv_topi (fun z_327 ez_327 => ?_)
        refine j7_put hx hb hown hK hh_325 hB hAp hB3 (C := RX1) (T := TX1) (N := 17) rfl (by decide) hg_el_300 (i := 13) (by decide) hly_3_13 rfl hlk_577 rfl (ty := .int) (v := .int z_327) (by decide +kernel) rfl rfl (⟨_, rfl⟩) rfl (L1 := [(el_8, 3, 11, .ref chk_307), (el_8, 3, 4, .int ps_301), (el_8, 3, 10, .int pk_301), (el_8, 3, 5, .ref yb_301), (el_8, 3, 6, .ref ye_301), (r0, 13, 10, .ref hands_4), (r0, 13, 4, .ref bo), (bo, 2, 1, .int pc), (bo, 2, 0, .ref pa), (r0, 13, 3, .ref ou)]) [1, 2, 3, 4, 5, 6, 7, 8, 9, 10] rfl rfl rfl dX11_advance_53 (fun H_328 locs_328 hh_328 => ?_)
        clear hh_325
        refine lv_aload_n hx hb dX11_advance_56 rfl (lv_at hl 0 rfl) ?_
        refine j7_read hx hb hown hK (C := RX1) (T := TX1) (N := 17) rfl hly_3_13 hlk_577 (hh_328.at 0 rfl) dX11_advance_57 ?_
        refine lv_if_gt (tgt := 70) hx hb dX11_advance_60 (by decide) (fun c_329 => ?_) (fun c_329 => ?_)
        · skip
          have c_329' : z_327.toInt > 0 := jb_gt (rfl) ((by decide)) c_329
          obtain ⟨phn_330, hphn_330⟩ : ∃ q : Nat, q = pho_301 + (575 * (ps_301.toInt - pk_301.toInt) - 16 + (1500 - jSo fe_301 pk_301.toInt)).toNat := ⟨_, rfl⟩
          have hF_330 := jDcc.full (ph1 := phn_330) (hh_328.iv 0 rfl) hg_el_300 (hh_328.at 4 rfl) (hh_328.at 5 rfl) ⟨(hh_328.2.2.1.sub (L1 := [(el_8, 3, 4, .int ps_301), (el_8, 3, 10, .int pk_301), (el_8, 3, 11, .ref chk_307)]) [2, 3, 1] rfl), (hh_328.2.2.2.2.2.2.2.1.sub (L1 := [(yb_301, 171, 40, ca 1, fb_301), (ye_301, 172, 40, ca 1, fe_301)]) [0, 1] rfl), hsn_301, by omega⟩ (w := (575 * (ps_301.toInt - pk_301.toInt) - 16 + (1500 - jSo fe_301 pk_301.toInt)).toNat) (fun _ => jPo.mkR (by omega)) (by omega) (fun _ => by omega)
          have hh_331 := hh_328.sub (L1 := [(el_8, 3, 13, .int z_327), (el_8, 3, 11, .ref chk_307), (el_8, 3, 4, .int ps_301), (el_8, 3, 10, .int pk_301), (el_8, 3, 5, .ref yb_301), (el_8, 3, 6, .ref ye_301), (r0, 13, 10, .ref hands_4), (r0, 13, 4, .ref bo), (bo, 2, 1, .int pc), (bo, 2, 0, .ref pa), (r0, 13, 3, .ref ou)]) [0, 1, 2, 3, 4, 5, 6, 7, 8, 9, 10] rfl (M1 := [(yb_301, 171, 40, ca 1, fb_301), (ye_301, 172, 40, ca 1, fe_301)]) [0, 1] rfl (I1 := [([(212, 0)], jQc dC dI (ca 5) hands_4 2 fq_5), ([(2, 0), (2, 1)], jOl (dC, dI) G0 2 [bo, ou] s.heap), (jFy, jYb dC dI G0), (jFs11, jSef dC dI G0), (jFl, jLs dC dI ca G0 3 none wl)]) [1, 2, 3, 4, 5] rfl
          clear hh_328
          have hh_332 := hh_331.addI (jDcc.ie hF_330)
          clear hh_331
          have hsz_333 := hh_332.2.2.2.2.2.1
          have htt_333 := hh_332.2.2.2.2.2.2.1
          refine W.room (fun hrc_333 hrs_333 => ?_)
          refine W.widen (k := LC - s.heap.size) (n := LS - jTot s.heap) (by omega) (by omega) ?_
          rw [hQ]
          exact W.vret hx hb hr (fun t ht hW => ⟨⟨(pc, pa, n_pa, phn_330, G0), rfl, by (try dsimp only); exact ⟨(by first | (with_reducible assumption) | omega | rfl | fail), (by first | (with_reducible assumption) | omega | rfl | fail), (by first | (with_reducible assumption) | omega | rfl | fail), (by first | (with_reducible assumption) | omega | rfl | fail), (by first | assumption | fail | omega), (by first | (with_reducible assumption) | omega | rfl | fail)⟩, ⟨hh_332.ra (by first | (simp only; omega) | omega) (by first | (simp only; omega) | omega) (M1 := [(bo, 2, 1, .int pc), (bo, 2, 0, .ref pa)]) [8, 9] rfl ht, hg_pa, jNk.rf, by rw [ht]; exact hh_332.iv 2 rfl, by rw [ht]; exact hh_332.2.2.2.2.2.2.2.2.sub (L1 := [(jFy, jYb dC dI G0), (jFs11, jSef dC dI G0), (jFl, jLs dC dI ca G0 3 none wl), (jFdo, jDcc dC dI ca G0 none phn_330)]) [3, 4, 5, 0] rfl⟩⟩, by rw [ht]; try exact hh_332.1.1, fun q h9 hq => by rw [ht]; try exact hh_332.1.2.1 q h9 hq⟩) hh_332.1.2.2 dX11_advance_70
        · skip
          have c_329' : z_327.toInt ≤ 0 := jb_gt_n (rfl) ((by decide)) c_329
          refine lv_aload_n hx hb dX11_advance_63 rfl (lv_at hl 0 rfl) ?_
          refine j7_read hx hb hown hK (C := RX1) (T := TX1) (N := 17) rfl hly_3_11 hlk_567 (hh_328.at 1 rfl) dX11_advance_64 ?_
          refine lv_ifnonnull (tgt := 71) hx hb dX11_advance_67 (by decide) ?_
          refine lv_aload_n hx hb dX11_advance_71 rfl (lv_at hl 0 rfl) ?_
          obtain ⟨v_334, hv_334, hh_335⟩ := hh_328.pin (C := RX1) (T := TX1) (N := 17) hB3 rfl (by decide) hg_el_300 (i := 12) (by decide) rfl
          clear hh_328
          rcases hv_334 with rfl | ⟨found_336, rfl, hg_found_336⟩
          · refine j7_read hx hb hown hK (C := RX1) (T := TX1) (N := 17) rfl hly_3_12 hlk_580 (hh_335.at 0 rfl) dX11_advance_72 ?_
            refine j7_nst_n (lv' := [(3, .null), (2, .ref el_8), (0, .ref r0), (1, .int a1)]) hx hb dX11_advance_75 rfl hl (by decide) rfl (fun ls hl => ?_)
            refine j7_nld_n hx hb dX11_advance_76 rfl (lv_at hl 0 rfl) ?_
            refine lv_ifnullN (tgt := 93) hx hb dX11_advance_77 (by decide) ?_
            refine lv_aload_n hx hb dX11_advance_93 rfl (lv_at hl 2 rfl) ?_
            obtain ⟨v_337, hv_337, hh_338⟩ := hh_335.pin (C := RX11) (T := TX11) (N := 19) hB13 rfl (by decide) hg_r0 (i := 5) (by decide) rfl
            clear hh_335
            obtain ⟨kernel_339, rfl, hg_kernel_339⟩ := hv_337
            refine j7_read hx hb hown hK (C := RX11) (T := TX11) (N := 19) rfl hly_13_5 hlk_41 (hh_338.at 0 rfl) dX11_advance_94 ?_
            refine lv_aload_n hx hb dX11_advance_97 rfl (lv_at hl 1 rfl) ?_
            refine lv_aload_n hx hb dX11_advance_98 rfl (lv_at hl 1 rfl) ?_
            refine j7_read hx hb hown hK (C := RX1) (T := TX1) (N := 17) rfl hly_3_10 hlk_171 (hh_338.at 5 rfl) dX11_advance_99 ?_
            refine lv_aload_n hx hb dX11_advance_102 rfl (lv_at hl 2 rfl) ?_
            refine j7_read hx hb hown hK (C := RX11) (T := TX11) (N := 19) rfl hly_13_5 hlk_41 (hh_338.at 0 rfl) dX11_advance_103 ?_
            obtain ⟨v_340, hv_340, hh_341⟩ := hh_338.pin (C := RX5) (T := TX5) (N := 11) hB7 rfl (by decide) hg_kernel_339 (i := 2) (by decide) rfl
            clear hh_338
            obtain ⟨start_342, rfl, hg_start_342⟩ := hv_340
            refine j7_read hx hb hown hK (C := RX5) (T := TX5) (N := 11) rfl hly_7_2 hlk_217 (hh_341.at 0 rfl) dX11_advance_106 ?_
            have hsz_343 := hh_341.2.2.2.2.2.1
            have htt_343 := hh_341.2.2.2.2.2.2.1
            refine W.room (fun hrc_343 hrs_343 => ?_)
            refine j_callx (A0 := jA base) (H0 := s.heap) (va_runV (As := [.int pk_301, .ref start_342]) (rest := [.ref kernel_339]) ⟨hx, hb, hml, hown, hts⟩ (uX1_stateBehind l dC dI ca base B hB hAp hB3 hB11 hB210 G0 H_328 el_8 pk_301 start_342 0) (cwV 2 hts (jgV (jWr_30 _ (List.mem_of_getElem? (i := 9) rfl)) (jWr_30 _ (List.mem_of_getElem? (i := 10) rfl)) (jWr_30 _ (List.mem_of_getElem? (i := 11) rfl)) (jWr_2 _ (List.mem_of_getElem? (i := 21) rfl)) (jWr_30 _ (List.mem_of_getElem? (i := 12) rfl))) rfl rfl rfl (by decide +kernel) ⟨by rw [← hR]; exact Nat.le_of_ble_eq_true rfl, by rw [← hR]; exact Nat.le_of_ble_eq_true rfl⟩) ⟨fun a U g mk q => by obtain ⟨q0, q1, q2, qK, q10, q11, q12, q13, q14⟩ := q; exact ⟨q0, q1, q2, jG.calling g mk a qK, (va_K.moved (Vm.Alike.refl U.vm) q10), q11, q12, q13, q14⟩, hh_341.recv (C := RX1) (T := TX1) (N := 17) hB3 rfl (by decide) hg_el_300 hK, fun U hU hW => ⟨rfl, hU, hh_341.2.1, hG.step hW hU hh_341.1, va_K.moved hW.alike hK2, hg_el_300, hg_start_342, jP.nil, trivial⟩⟩ rfl rfl hl.1 rfl (lv_room (Nat.le_of_ble_eq_true rfl)) dX11_advance_109 ⟨by rw [hRc]; show _ + 0 ≤ _; omega, by rw [hRs]; show _ + 0 ≤ _; omega⟩) hh_341.1 (fun q _ h => h) (fun q h => h) (fun r_344 u_343 t_343 H_343 locs_343 ht_343 hvm_343 hr_344 hb_343 hz_343 hk_343 hS_343 => ?_)
            rw [ht_343] at hb_343
            obtain ⟨hb_3431, hb_3432, hb_3433, hb_3434, hb_3435⟩ := hb_343
            have hh_343 : jSt (dC, dI) B base G0 G0 EX11_advance s.heap 0 0 [(kernel_339, 7, 2, .ref start_342), (r0, 13, 5, .ref kernel_339), (el_8, 3, 12, .null), (el_8, 3, 13, .int z_327), (el_8, 3, 11, .ref chk_307), (el_8, 3, 4, .int ps_301), (el_8, 3, 10, .int pk_301), (el_8, 3, 5, .ref yb_301), (el_8, 3, 6, .ref ye_301), (r0, 13, 10, .ref hands_4), (r0, 13, 4, .ref bo), (bo, 2, 1, .int pc), (bo, 2, 0, .ref pa), (r0, 13, 3, .ref ou)] [(yb_301, 171, 40, ca 1, fb_301), (ye_301, 172, 40, ca 1, fe_301)] [(jFdo, jDcc dC dI ca G0 (some el_8) pho_301), ([(212, 0)], jQc dC dI (ca 5) hands_4 2 fq_5), ([(2, 0), (2, 1)], jOl (dC, dI) G0 2 [bo, ou] s.heap), (jFy, jYb dC dI G0), (jFs11, jSef dC dI G0), (jFl, jLs dC dI ca G0 3 none wl)] H_343 locs_343 := ((hh_341.call hb_3431 hb_3432 hb_3433 hb_3434 hS_343 rfl (L1 := [(kernel_339, 7, 2, .ref start_342), (r0, 13, 5, .ref kernel_339), (el_8, 3, 12, .null), (el_8, 3, 13, .int z_327), (el_8, 3, 11, .ref chk_307), (el_8, 3, 4, .int ps_301), (el_8, 3, 10, .int pk_301), (el_8, 3, 5, .ref yb_301), (el_8, 3, 6, .ref ye_301), (r0, 13, 10, .ref hands_4), (r0, 13, 4, .ref bo), (bo, 2, 1, .int pc), (bo, 2, 0, .ref pa), (r0, 13, 3, .ref ou)]) [0, 1, 2, 3, 4, 5, 6, 7, 8, 9, 10, 11, 12, 13] rfl rfl (M1 := [(yb_301, 171, 40, ca 1, fb_301), (ye_301, 172, 40, ca 1, fe_301)]) [0, 1] rfl rfl (I1 := [(jFdo, jDcc dC dI ca G0 (some el_8) pho_301), ([(212, 0)], jQc dC dI (ca 5) hands_4 2 fq_5), ([(2, 0), (2, 1)], jOl (dC, dI) G0 2 [bo, ou] s.heap), (jFy, jYb dC dI G0), (jFs11, jSef dC dI G0), (jFl, jLs dC dI ca G0 3 none wl)]) [0, 1, 2, 3, 4, 5] rfl rfl).more hb_3435)
            clear hh_341 ht_343 hvm_343 hz_343 hk_343 hS_343 hb_3431 hb_3432 hb_3433 hb_3434 hb_3435
            obtain ⟨ret_345, rfl, hg_ret_345⟩ := hr_344
            refine lv_aload_n hx hb dX11_advance_112 rfl (lv_at hl 1 rfl) ?_
            refine j7_read hx hb hown hK (C := RX1) (T := TX1) (N := 17) rfl hly_3_11 hlk_567 (hh_343.at 4 rfl) dX11_advance_113 ?_
            refine lv_aload_n hx hb dX11_advance_116 rfl (lv_at hl 1 rfl) ?_
            have hsz_346 := hh_343.2.2.2.2.2.1
            have htt_346 := hh_343.2.2.2.2.2.2.1
            refine W.room (fun hrc_346 hrs_346 => ?_)
            refine va_calli (A0 := jA base) (H0 := s.heap) (va_runV (As := []) (rest := [.ref chk_307, .ref ret_345, .ref kernel_339]) ⟨hx, hb, hml, hown, hts⟩ (uX1_earlyFault l dC dI ca base B hB hAp hB3 hB101 G0 H_343 el_8) (cwV 0 hts (jgV (jWr_78 _ (List.mem_of_getElem? (i := 10) rfl)) (jWr_78 _ (List.mem_of_getElem? (i := 11) rfl)) (jWr_78 _ (List.mem_of_getElem? (i := 12) rfl)) (jWr_2 _ (List.mem_of_getElem? (i := 21) rfl)) (jWr_78 _ (List.mem_of_getElem? (i := 13) rfl))) rfl rfl rfl (by decide +kernel) ⟨by rw [← hR]; exact Nat.le_of_ble_eq_true rfl, by rw [← hR]; exact Nat.le_of_ble_eq_true rfl⟩) ⟨fun a U g mk q => by obtain ⟨q0, q1, q2, qK, q10, q11, q12⟩ := q; exact ⟨q0, q1, q2, jG.calling g mk a qK, q10, q11, q12⟩, hh_343.recv (C := RX1) (T := TX1) (N := 17) hB3 rfl (by decide) hg_el_300 hK, fun U hU hW => ⟨rfl, hU, hh_343.2.1, hG.step hW hU hh_343.1, hg_el_300, jP.nil, trivial⟩⟩ rfl rfl hl.1 rfl (lv_room (Nat.le_of_ble_eq_true rfl)) dX11_advance_117 ⟨by rw [hRc]; show _ + 0 ≤ _; omega, by rw [hRs]; show _ + 0 ≤ _; omega⟩) hh_343.1 (fun q _ h => h) (fun q h => h) (fun r_347 u_346 t_346 H_346 locs_346 ht_346 hvm_346 hr_347 hb_346 hz_346 hk_346 hS_346 => ?_)
            rw [ht_346] at hb_346
            obtain ⟨hb_3461, hb_3462, hb_3463, hb_3464, hb_3465⟩ := hb_346
            have hh_346 : jSt (dC, dI) B base G0 G0 EX11_advance s.heap 0 0 [(kernel_339, 7, 2, .ref start_342), (r0, 13, 5, .ref kernel_339), (el_8, 3, 12, .null), (el_8, 3, 13, .int z_327), (el_8, 3, 11, .ref chk_307), (el_8, 3, 4, .int ps_301), (el_8, 3, 10, .int pk_301), (el_8, 3, 5, .ref yb_301), (el_8, 3, 6, .ref ye_301), (r0, 13, 10, .ref hands_4), (r0, 13, 4, .ref bo), (bo, 2, 1, .int pc), (bo, 2, 0, .ref pa), (r0, 13, 3, .ref ou)] [(yb_301, 171, 40, ca 1, fb_301), (ye_301, 172, 40, ca 1, fe_301)] [(jFdo, jDcc dC dI ca G0 (some el_8) pho_301), ([(212, 0)], jQc dC dI (ca 5) hands_4 2 fq_5), ([(2, 0), (2, 1)], jOl (dC, dI) G0 2 [bo, ou] s.heap), (jFy, jYb dC dI G0), (jFs11, jSef dC dI G0), (jFl, jLs dC dI ca G0 3 none wl)] H_346 locs_346 := ((hh_343.call hb_3461 hb_3462 hb_3463 hb_3464 hS_346 rfl (L1 := [(kernel_339, 7, 2, .ref start_342), (r0, 13, 5, .ref kernel_339), (el_8, 3, 12, .null), (el_8, 3, 13, .int z_327), (el_8, 3, 11, .ref chk_307), (el_8, 3, 4, .int ps_301), (el_8, 3, 10, .int pk_301), (el_8, 3, 5, .ref yb_301), (el_8, 3, 6, .ref ye_301), (r0, 13, 10, .ref hands_4), (r0, 13, 4, .ref bo), (bo, 2, 1, .int pc), (bo, 2, 0, .ref pa), (r0, 13, 3, .ref ou)]) [0, 1, 2, 3, 4, 5, 6, 7, 8, 9, 10, 11, 12, 13] rfl rfl (M1 := [(yb_301, 171, 40, ca 1, fb_301), (ye_301, 172, 40, ca 1, fe_301)]) [0, 1] rfl rfl (I1 := [(jFdo, jDcc dC dI ca G0 (some el_8) pho_301), ([(212, 0)], jQc dC dI (ca 5) hands_4 2 fq_5), ([(2, 0), (2, 1)], jOl (dC, dI) G0 2 [bo, ou] s.heap), (jFy, jYb dC dI G0), (jFs11, jSef dC dI G0), (jFl, jLs dC dI ca G0 3 none wl)]) [0, 1, 2, 3, 4, 5] rfl rfl).more hb_3465)
            clear hh_343 ht_346 hvm_346 hz_346 hk_346 hS_346 hb_3461 hb_3462 hb_3463 hb_3464 hb_3465
            have hsz_348 := hh_346.2.2.2.2.2.1
            have htt_348 := hh_346.2.2.2.2.2.2.1
            refine W.room (fun hrc_348 hrs_348 => ?_)
            refine j_callx (A0 := jA base) (H0 := s.heap) (va_runV (As := [.ref ret_345, .ref chk_307, .int r_347]) (rest := []) ⟨hx, hb, hml, hown, hts⟩ (uX5_checkS l dC dI ca base B hB hAp hB5 hB7 hB8 hB11 hB12 hB101 hB102 hB132 hB133 hB211 hB214 hB280 hB290 hB291 hB292 hB293 hB313 hB315 G0 H_346 kernel_339 ret_345 chk_307 r_347 nchk_307 1 LC LS) (cwV 3 hts (jgV (jWr_78 _ (List.mem_of_getElem? (i := 14) rfl)) (jWr_78 _ (List.mem_of_getElem? (i := 15) rfl)) (jWr_78 _ (List.mem_of_getElem? (i := 16) rfl)) (jWr_2 _ (List.mem_of_getElem? (i := 4) rfl)) (jWr_78 _ (List.mem_of_getElem? (i := 17) rfl))) rfl rfl rfl (by decide +kernel) ⟨by rw [← hR]; exact Nat.le_of_ble_eq_true rfl, by rw [← hR]; exact Nat.le_of_ble_eq_true rfl⟩) ⟨fun a U g mk q => by obtain ⟨q0, q1, q2, qK, q10, q11, q12, q13, q14, q15, q16, q17, q18⟩ := q; exact ⟨q0, q1, q2, jG.calling g mk a qK, (va_K.moved (Vm.Alike.refl U.vm) q10), (jK5.moved (Vm.Alike.refl U.vm) q11), (jK6.moved (Vm.Alike.refl U.vm) q12), q13, q14, q15, q16, q17, q18⟩, hh_346.recv (C := RX5) (T := TX5) (N := 11) hB7 rfl (by decide) hg_kernel_339 hK, fun U hU hW => ⟨rfl, hU, hh_346.2.1, hG.step hW hU hh_346.1, va_K.moved hW.alike hK2, jK5.moved hW.alike hK5, jK6.moved hW.alike hK6, hg_kernel_339, hg_ret_345, hg_chk_307, jP.nil, (hh_346.2.2.2.2.2.2.2.2.sub (L1 := [(jFs11, jSef dC dI G0)]) [4] rfl), ⟨(by first | (with_reducible assumption) | omega | rfl | fail), (by first | (with_reducible assumption) | omega | rfl | fail)⟩⟩⟩ rfl rfl hl.1 rfl (lv_room (Nat.le_of_ble_eq_true rfl)) dX11_advance_120 ⟨by rw [hRc]; omega, by rw [hRs]; omega⟩) hh_346.1 (fun q _ h => h) (fun q h => h) (fun r_349 u_348 t_348 H_348 locs_348 ht_348 hvm_348 hr_349 hb_348 hz_348 hk_348 hS_348 => ?_)
            rw [ht_348] at hb_348
            obtain ⟨G_348, rfl⟩ : ∃ z, z = u_348 := ⟨_, rfl⟩
            try simp only at hb_348
            obtain ⟨⟨hb_3481, hb_3482, hb_3483, hb_3484, hb_3485, hb_3486⟩, hN_348, hbE_348⟩ := hb_348
            have hh_348 : jSt (dC, dI) B base G0 G_348 EX11_advance s.heap (0 + (23)) (0 + ((183 + 336 * 1))) [(kernel_339, 7, 2, .ref start_342), (r0, 13, 5, .ref kernel_339), (el_8, 3, 12, .null), (el_8, 3, 13, .int z_327), (el_8, 3, 11, .ref chk_307), (el_8, 3, 4, .int ps_301), (el_8, 3, 10, .int pk_301), (el_8, 3, 5, .ref yb_301), (el_8, 3, 6, .ref ye_301), (r0, 13, 10, .ref hands_4), (r0, 13, 4, .ref bo), (bo, 2, 1, .int pc), (bo, 2, 0, .ref pa), (r0, 13, 3, .ref ou)] [(yb_301, 171, 40, ca 1, fb_301), (ye_301, 172, 40, ca 1, fe_301)] [(jFdo, jDcc dC dI ca G0 (some el_8) pho_301), ([(212, 0)], jQc dC dI (ca 5) hands_4 2 fq_5), ([(2, 0), (2, 1)], jOl (dC, dI) G0 2 [bo, ou] s.heap), (jFy, jYb dC dI G0), (jFl, jLs dC dI ca G0 3 none wl)] H_348 locs_348 := (hh_346.callG hb_3481 hb_3482 hb_3483 hb_3484 hb_3485 hS_348 rfl (L1 := [(kernel_339, 7, 2, .ref start_342), (r0, 13, 5, .ref kernel_339), (el_8, 3, 12, .null), (el_8, 3, 13, .int z_327), (el_8, 3, 11, .ref chk_307), (el_8, 3, 4, .int ps_301), (el_8, 3, 10, .int pk_301), (el_8, 3, 5, .ref yb_301), (el_8, 3, 6, .ref ye_301), (r0, 13, 10, .ref hands_4), (r0, 13, 4, .ref bo), (bo, 2, 1, .int pc), (bo, 2, 0, .ref pa), (r0, 13, 3, .ref ou)]) [0, 1, 2, 3, 4, 5, 6, 7, 8, 9, 10, 11, 12, 13] rfl rfl (M1 := [(yb_301, 171, 40, ca 1, fb_301), (ye_301, 172, 40, ca 1, fe_301)]) [0, 1] rfl rfl (I1 := [(jFdo, jDcc dC dI ca G0 (some el_8) pho_301), ([(212, 0)], jQc dC dI (ca 5) hands_4 2 fq_5), ([(2, 0), (2, 1)], jOl (dC, dI) G0 2 [bo, ou] s.heap), (jFy, jYb dC dI G0), (jFl, jLs dC dI ca G0 3 none wl)]) [0, 1, 2, 3, 5] rfl rfl).more hb_3486
            have hNn_348 : (jNk [0, 1, 2, 3, 4, 6, 7, 8, 9, 10, 12, 13, 14, 15, 16]) G0 G_348 := (jNk.rf).tr hN_348
            have hg_350 := hb_3482 _ _ hg_el_300
            have hg_351 := hb_3482 _ _ hg_r0
            have hg_352 := hb_3482 _ _ hg_start_342
            have hg_353 := hb_3482 _ _ hg_kernel_339
            have hg_354 := hb_3482 _ _ hg_chk_307
            have hg_355 := hb_3482 _ _ hgb_301
            have hg_356 := hb_3482 _ _ hge_301
            have hg_357 := hb_3482 _ _ hg_hands_4
            have hg_358 := hb_3482 _ _ hg_bo
            have hg_359 := hb_3482 _ _ hg_pa
            have hg_360 := hb_3482 _ _ hg_ou
            have hd_361 := jDcc.grow (hh_348.iv 0 rfl) hb_3482 hN_348 (by decide)
            have hh_362 := hh_348.sub (L1 := [(kernel_339, 7, 2, .ref start_342), (r0, 13, 5, .ref kernel_339), (el_8, 3, 12, .null), (el_8, 3, 13, .int z_327), (el_8, 3, 11, .ref chk_307), (el_8, 3, 4, .int ps_301), (el_8, 3, 10, .int pk_301), (el_8, 3, 5, .ref yb_301), (el_8, 3, 6, .ref ye_301), (r0, 13, 10, .ref hands_4), (r0, 13, 4, .ref bo), (bo, 2, 1, .int pc), (bo, 2, 0, .ref pa), (r0, 13, 3, .ref ou)]) [0, 1, 2, 3, 4, 5, 6, 7, 8, 9, 10, 11, 12, 13] rfl (M1 := [(yb_301, 171, 40, ca 1, fb_301), (ye_301, 172, 40, ca 1, fe_301)]) [0, 1] rfl (I1 := [([(212, 0)], jQc dC dI (ca 5) hands_4 2 fq_5), ([(2, 0), (2, 1)], jOl (dC, dI) G0 2 [bo, ou] s.heap), (jFy, jYb dC dI G0), (jFl, jLs dC dI ca G0 3 none wl)]) [1, 2, 3, 4] rfl
            clear hh_348
            have hh_363 := hh_362.addI (jDcc.ie hd_361)
            clear hh_362
            have hd_365 := jYb.grow (hh_363.iv 3 rfl) hb_3482 hN_348 (by decide)
            have hh_366 := hh_363.sub (L1 := [(kernel_339, 7, 2, .ref start_342), (r0, 13, 5, .ref kernel_339), (el_8, 3, 12, .null), (el_8, 3, 13, .int z_327), (el_8, 3, 11, .ref chk_307), (el_8, 3, 4, .int ps_301), (el_8, 3, 10, .int pk_301), (el_8, 3, 5, .ref yb_301), (el_8, 3, 6, .ref ye_301), (r0, 13, 10, .ref hands_4), (r0, 13, 4, .ref bo), (bo, 2, 1, .int pc), (bo, 2, 0, .ref pa), (r0, 13, 3, .ref ou)]) [0, 1, 2, 3, 4, 5, 6, 7, 8, 9, 10, 11, 12, 13] rfl (M1 := [(yb_301, 171, 40, ca 1, fb_301), (ye_301, 172, 40, ca 1, fe_301)]) [0, 1] rfl (I1 := [(jFdo, jDcc dC dI ca G_348 (some el_8) pho_301), ([(212, 0)], jQc dC dI (ca 5) hands_4 2 fq_5), ([(2, 0), (2, 1)], jOl (dC, dI) G0 2 [bo, ou] s.heap), (jFl, jLs dC dI ca G0 3 none wl)]) [0, 1, 2, 4] rfl
            clear hh_363
            have hh_367 := hh_366.addI (jYb.ie hd_365)
            clear hh_366
            have hd_368 := jLs.grow (hh_367.iv 4 rfl) hb_3482 hN_348 (by decide)
            have hh_369 := hh_367.sub (L1 := [(kernel_339, 7, 2, .ref start_342), (r0, 13, 5, .ref kernel_339), (el_8, 3, 12, .null), (el_8, 3, 13, .int z_327), (el_8, 3, 11, .ref chk_307), (el_8, 3, 4, .int ps_301), (el_8, 3, 10, .int pk_301), (el_8, 3, 5, .ref yb_301), (el_8, 3, 6, .ref ye_301), (r0, 13, 10, .ref hands_4), (r0, 13, 4, .ref bo), (bo, 2, 1, .int pc), (bo, 2, 0, .ref pa), (r0, 13, 3, .ref ou)]) [0, 1, 2, 3, 4, 5, 6, 7, 8, 9, 10, 11, 12, 13] rfl (M1 := [(yb_301, 171, 40, ca 1, fb_301), (ye_301, 172, 40, ca 1, fe_301)]) [0, 1] rfl (I1 := [(jFy, jYb dC dI G_348), (jFdo, jDcc dC dI ca G_348 (some el_8) pho_301), ([(212, 0)], jQc dC dI (ca 5) hands_4 2 fq_5), ([(2, 0), (2, 1)], jOl (dC, dI) G0 2 [bo, ou] s.heap)]) [0, 1, 2, 3] rfl
            clear hh_367
            have hh_370 := hh_369.addI (jLs.ie hd_368)
            clear hh_369
            have hh_371 := hh_370.addIs hbE_348
            obtain ⟨hr_349, hr_349p⟩ := hr_349
            try simp only at hr_349p
            obtain ⟨ret_372, rfl, hg_ret_372⟩ := hr_349
            refine lv_astore_n (lv' := [(3, .ref ret_372), (2, .ref el_8), (0, .ref r0), (1, .int a1)]) hx hb dX11_advance_123 rfl hl (by decide) rfl (fun ls hl => ?_)
            refine lv_aload_n hx hb dX11_advance_124 rfl (lv_at hl 1 rfl) ?_
            refine lv_aload_n hx hb dX11_advance_125 rfl (lv_at hl 0 rfl) ?_
            have hsz_373 := hh_371.2.2.2.2.2.1
            have htt_373 := hh_371.2.2.2.2.2.2.1
            refine W.room (fun hrc_373 hrs_373 => ?_)
            refine va_callv (A0 := jA base) (H0 := s.heap) (va_runV (As := [.ref ret_372]) (rest := []) ⟨hx, hb, hml, hown, hts⟩ (uX1_addCheckedE l dC dI ca base B hB hAp hB3 hB11 hB210 G_348 H_348 el_8 ret_372 yb_301 ye_301 ps_301 pk_301 (pho_301)) (cwV 1 hts (jgV (jWr_89 _ (List.mem_of_getElem? (i := 4) rfl)) (jWr_89 _ (List.mem_of_getElem? (i := 5) rfl)) (jWr_89 _ (List.mem_of_getElem? (i := 6) rfl)) (jWr_2 _ (List.mem_of_getElem? (i := 21) rfl)) (jWr_89 _ (List.mem_of_getElem? (i := 7) rfl))) rfl rfl rfl (by decide +kernel) ⟨by rw [← hR]; exact Nat.le_of_ble_eq_true rfl, by rw [← hR]; exact Nat.le_of_ble_eq_true rfl⟩) ⟨fun a U g mk q => by obtain ⟨q0, q1, q2, qK, q10, q11, q12, q13, q14, q15, q16, q17⟩ := q; exact ⟨q0, q1, q2, jG.calling g mk a qK, (va_K.moved (Vm.Alike.refl U.vm) q10), q11, q12, q13, q14, q15, q16, q17⟩, hh_371.recv (C := RX1) (T := TX1) (N := 17) hB3 rfl (by decide) hg_350 hK, fun U hU hW => ⟨rfl, hU, hh_371.2.1, hG.step hW hU hh_371.1, va_K.moved hW.alike hK2, hg_350, hg_ret_372, hg_355, hg_356, (hh_371.2.2.1.sub (L1 := [(el_8, 3, 5, .ref yb_301), (el_8, 3, 6, .ref ye_301), (el_8, 3, 4, .int ps_301), (el_8, 3, 10, .int pk_301)]) [7, 8, 5, 6] rfl), (hh_371.2.2.2.2.2.2.2.2.sub (L1 := [(jFdo, jDcc dC dI ca G_348 (some el_8) pho_301)]) [3] rfl), ⟨(by first | (with_reducible assumption) | omega | rfl | fail), (by first | (with_reducible assumption) | omega | rfl | fail), (by first | (with_reducible assumption) | omega | rfl | fail), (by first | (with_reducible assumption) | omega | rfl | fail)⟩⟩⟩ rfl rfl hl.1 rfl (lv_room (Nat.le_of_ble_eq_true rfl)) dX11_advance_126 ⟨by rw [hRc]; show _ + 0 ≤ _; omega, by rw [hRs]; show _ + 0 ≤ _; omega⟩) hh_371.1 (fun q _ h => h) (fun q h => h) (fun u_373 t_373 H_373 locs_373 ht_373 hvm_373 hr_374 hb_373 hz_373 hk_373 hS_373 => ?_)
            obtain ⟨qk_373, rfl⟩ : ∃ z, z = u_373 := ⟨_, rfl⟩
            rw [ht_373] at hb_373
            obtain ⟨hb_373, hbE_373⟩ := hb_373
            obtain ⟨hb_373, hbO_373⟩ := hb_373
            obtain ⟨hb_3731, hb_3732, hb_3733, hb_3734, hb_3735⟩ := hb_373
            have hh_373 : jSt (dC, dI) B base G0 G_348 EX11_advance s.heap (0 + (23)) (0 + ((183 + 336 * 1))) [(el_8, 3, 10, .int qk_373), (kernel_339, 7, 2, .ref start_342), (r0, 13, 5, .ref kernel_339), (el_8, 3, 12, .null), (el_8, 3, 13, .int z_327), (el_8, 3, 11, .ref chk_307), (el_8, 3, 4, .int ps_301), (el_8, 3, 5, .ref yb_301), (el_8, 3, 6, .ref ye_301), (r0, 13, 10, .ref hands_4), (r0, 13, 4, .ref bo), (bo, 2, 1, .int pc), (bo, 2, 0, .ref pa), (r0, 13, 3, .ref ou)] [(yb_301, 171, 40, ca 1, fb_301), (ye_301, 172, 40, ca 1, fe_301)] [(jFdo, jDcc dC dI ca G_348 (some el_8) pho_301), (jFs11, jSef dC dI G_348), (jFl, jLs dC dI ca G_348 3 none wl), (jFy, jYb dC dI G_348), ([(212, 0)], jQc dC dI (ca 5) hands_4 2 fq_5), ([(2, 0), (2, 1)], jOl (dC, dI) G0 2 [bo, ou] s.heap)] H_373 locs_373 := (((hh_371.call hb_3731 hb_3732 hb_3733 hb_3734 hS_373 rfl (L1 := [(kernel_339, 7, 2, .ref start_342), (r0, 13, 5, .ref kernel_339), (el_8, 3, 12, .null), (el_8, 3, 13, .int z_327), (el_8, 3, 11, .ref chk_307), (el_8, 3, 4, .int ps_301), (el_8, 3, 5, .ref yb_301), (el_8, 3, 6, .ref ye_301), (r0, 13, 10, .ref hands_4), (r0, 13, 4, .ref bo), (bo, 2, 1, .int pc), (bo, 2, 0, .ref pa), (r0, 13, 3, .ref ou)]) [0, 1, 2, 3, 4, 5, 7, 8, 9, 10, 11, 12, 13] rfl rfl (M1 := [(yb_301, 171, 40, ca 1, fb_301), (ye_301, 172, 40, ca 1, fe_301)]) [0, 1] rfl rfl (I1 := [(jFs11, jSef dC dI G_348), (jFl, jLs dC dI ca G_348 3 none wl), (jFy, jYb dC dI G_348), ([(212, 0)], jQc dC dI (ca 5) hands_4 2 fq_5), ([(2, 0), (2, 1)], jOl (dC, dI) G0 2 [bo, ou] s.heap)]) [0, 1, 2, 4, 5] rfl rfl).more hb_3735)).addIs hbE_373
            clear hh_371 ht_373 hvm_373 hz_373 hk_373 hS_373 hb_3731 hb_3732 hb_3733 hb_3734 hb_3735
            clear  hbE_373
            refine lv_aload_n hx hb dX11_advance_129 rfl (lv_at hl 2 rfl) ?_
            refine lv_aload_n hx hb dX11_advance_130 rfl (lv_at hl 0 rfl) ?_
            have hsz_375 := hh_373.2.2.2.2.2.1
            have htt_375 := hh_373.2.2.2.2.2.2.1
            refine W.room (fun hrc_375 hrs_375 => ?_)
            refine va_callv (A0 := jA base) (H0 := s.heap) (va_runV (As := [.ref ret_372]) (rest := []) ⟨hx, hb, hml, hown, hts⟩ (uX11_remember l dC dI ca base B hB hAp hB1 hB11 hB13 hB101 hB223 G_348 H_373 r0 ret_372 wl LC LS) (cwV 1 hts (jgV (jWr_89 _ (List.mem_of_getElem? (i := 8) rfl)) (jWr_89 _ (List.mem_of_getElem? (i := 9) rfl)) (jWr_89 _ (List.mem_of_getElem? (i := 10) rfl)) (jWr_1 _ (List.mem_of_getElem? (i := 2) rfl)) (jWr_89 _ (List.mem_of_getElem? (i := 11) rfl))) rfl rfl rfl (by decide +kernel) ⟨by rw [← hR]; exact Nat.le_of_ble_eq_true rfl, by rw [← hR]; exact Nat.le_of_ble_eq_true rfl⟩) ⟨fun a U g mk q => by obtain ⟨q0, q1, q2, qK, q10, q11, q12, q13, q14, q15⟩ := q; exact ⟨q0, q1, q2, jG.calling g mk a qK, (jK7.calling g mk a q10), q11, q12, q13, q14, q15⟩, hh_373.recv (C := RX11) (T := TX11) (N := 19) hB13 rfl (by decide) hg_351 hK, fun U hU hW => ⟨rfl, hU, hh_373.2.1, hG.step hW hU hh_373.1, (hK7.step hW hU hh_373.1), hg_351, hg_ret_372, jP.nil, (hh_373.2.2.2.2.2.2.2.2.sub (L1 := [(jFl, jLs dC dI ca G_348 3 none wl)]) [2] rfl), (by omega), (by omega), trivial⟩⟩ rfl rfl hl.1 rfl (lv_room (Nat.le_of_ble_eq_true rfl)) dX11_advance_131 ⟨by rw [hRc]; omega, by rw [hRs]; omega⟩) hh_373.1 (fun q _ h => h) (fun q h => h) (fun u_375 t_375 H_375 locs_375 ht_375 hvm_375 hr_376 hb_375 hz_375 hk_375 hS_375 => ?_)
            rw [ht_375] at hb_375
            obtain ⟨G_375, rfl⟩ : ∃ z, z = u_375 := ⟨_, rfl⟩
            try simp only at hb_375
            obtain ⟨⟨hb_3751, hb_3752, hb_3753, hb_3754, hb_3755, hb_3756⟩, hN_375, hbE_375⟩ := hb_375
            have hM_375 := hN_375
            have hN_375 : (jNk [0, 1, 2, 3, 4, 6, 7, 8, 9, 10, 12, 13, 14, 15, 16]) G_348 G_375 := hN_375.sub (by decide)
            have hh_375 : jSt (dC, dI) B base G0 G_375 EX11_advance s.heap ((0 + (23)) + (1)) ((0 + ((183 + 336 * 1))) + (40)) [(el_8, 3, 10, .int qk_373), (kernel_339, 7, 2, .ref start_342), (r0, 13, 5, .ref kernel_339), (el_8, 3, 12, .null), (el_8, 3, 13, .int z_327), (el_8, 3, 11, .ref chk_307), (el_8, 3, 4, .int ps_301), (el_8, 3, 5, .ref yb_301), (el_8, 3, 6, .ref ye_301), (r0, 13, 10, .ref hands_4), (r0, 13, 4, .ref bo), (bo, 2, 1, .int pc), (bo, 2, 0, .ref pa), (r0, 13, 3, .ref ou)] [(yb_301, 171, 40, ca 1, fb_301), (ye_301, 172, 40, ca 1, fe_301)] [(jFdo, jDcc dC dI ca G_348 (some el_8) pho_301), (jFs11, jSef dC dI G_348), (jFy, jYb dC dI G_348), ([(212, 0)], jQc dC dI (ca 5) hands_4 2 fq_5), ([(2, 0), (2, 1)], jOl (dC, dI) G0 2 [bo, ou] s.heap)] H_375 locs_375 := (hh_373.callG hb_3751 hb_3752 hb_3753 hb_3754 hb_3755 hS_375 rfl (L1 := [(el_8, 3, 10, .int qk_373), (kernel_339, 7, 2, .ref start_342), (r0, 13, 5, .ref kernel_339), (el_8, 3, 12, .null), (el_8, 3, 13, .int z_327), (el_8, 3, 11, .ref chk_307), (el_8, 3, 4, .int ps_301), (el_8, 3, 5, .ref yb_301), (el_8, 3, 6, .ref ye_301), (r0, 13, 10, .ref hands_4), (r0, 13, 4, .ref bo), (bo, 2, 1, .int pc), (bo, 2, 0, .ref pa), (r0, 13, 3, .ref ou)]) [0, 1, 2, 3, 4, 5, 6, 7, 8, 9, 10, 11, 12, 13] rfl rfl (M1 := [(yb_301, 171, 40, ca 1, fb_301), (ye_301, 172, 40, ca 1, fe_301)]) [0, 1] rfl rfl (I1 := [(jFdo, jDcc dC dI ca G_348 (some el_8) pho_301), (jFs11, jSef dC dI G_348), (jFy, jYb dC dI G_348), ([(212, 0)], jQc dC dI (ca 5) hands_4 2 fq_5), ([(2, 0), (2, 1)], jOl (dC, dI) G0 2 [bo, ou] s.heap)]) [0, 1, 3, 4, 5] rfl rfl).more hb_3756
            have hNn_375 : (jNk [0, 1, 2, 3, 4, 6, 7, 8, 9, 10, 12, 13, 14, 15, 16]) G0 G_375 := (hNn_348).tr hN_375
            have hg_377 := hb_3752 _ _ hg_ret_372
            have hg_378 := hb_3752 _ _ hg_350
            have hg_379 := hb_3752 _ _ hg_351
            have hg_380 := hb_3752 _ _ hg_352
            have hg_381 := hb_3752 _ _ hg_353
            have hg_382 := hb_3752 _ _ hg_354
            have hg_383 := hb_3752 _ _ hg_355
            have hg_384 := hb_3752 _ _ hg_356
            have hg_385 := hb_3752 _ _ hg_357
            have hg_386 := hb_3752 _ _ hg_358
            have hg_387 := hb_3752 _ _ hg_359
            have hg_388 := hb_3752 _ _ hg_360
            have hd_389 := jDcc.grow (hh_375.iv 0 rfl) hb_3752 hN_375 (by decide)
            have hh_390 := hh_375.sub (L1 := [(el_8, 3, 10, .int qk_373), (kernel_339, 7, 2, .ref start_342), (r0, 13, 5, .ref kernel_339), (el_8, 3, 12, .null), (el_8, 3, 13, .int z_327), (el_8, 3, 11, .ref chk_307), (el_8, 3, 4, .int ps_301), (el_8, 3, 5, .ref yb_301), (el_8, 3, 6, .ref ye_301), (r0, 13, 10, .ref hands_4), (r0, 13, 4, .ref bo), (bo, 2, 1, .int pc), (bo, 2, 0, .ref pa), (r0, 13, 3, .ref ou)]) [0, 1, 2, 3, 4, 5, 6, 7, 8, 9, 10, 11, 12, 13] rfl (M1 := [(yb_301, 171, 40, ca 1, fb_301), (ye_301, 172, 40, ca 1, fe_301)]) [0, 1] rfl (I1 := [(jFs11, jSef dC dI G_348), (jFy, jYb dC dI G_348), ([(212, 0)], jQc dC dI (ca 5) hands_4 2 fq_5), ([(2, 0), (2, 1)], jOl (dC, dI) G0 2 [bo, ou] s.heap)]) [1, 2, 3, 4] rfl
            clear hh_375
            have hh_391 := hh_390.addI (jDcc.ie hd_389)
            clear hh_390
            have hd_392 := jSef.grow (hh_391.iv 1 rfl) hb_3752 hM_375 (by decide)
            have hh_393 := hh_391.sub (L1 := [(el_8, 3, 10, .int qk_373), (kernel_339, 7, 2, .ref start_342), (r0, 13, 5, .ref kernel_339), (el_8, 3, 12, .null), (el_8, 3, 13, .int z_327), (el_8, 3, 11, .ref chk_307), (el_8, 3, 4, .int ps_301), (el_8, 3, 5, .ref yb_301), (el_8, 3, 6, .ref ye_301), (r0, 13, 10, .ref hands_4), (r0, 13, 4, .ref bo), (bo, 2, 1, .int pc), (bo, 2, 0, .ref pa), (r0, 13, 3, .ref ou)]) [0, 1, 2, 3, 4, 5, 6, 7, 8, 9, 10, 11, 12, 13] rfl (M1 := [(yb_301, 171, 40, ca 1, fb_301), (ye_301, 172, 40, ca 1, fe_301)]) [0, 1] rfl (I1 := [(jFdo, jDcc dC dI ca G_375 (some el_8) pho_301), (jFy, jYb dC dI G_348), ([(212, 0)], jQc dC dI (ca 5) hands_4 2 fq_5), ([(2, 0), (2, 1)], jOl (dC, dI) G0 2 [bo, ou] s.heap)]) [0, 2, 3, 4] rfl
            clear hh_391
            have hh_394 := hh_393.addI (jSef.ie hd_392)
            clear hh_393
            have hd_395 := jYb.grow (hh_394.iv 2 rfl) hb_3752 hN_375 (by decide)
            have hh_396 := hh_394.sub (L1 := [(el_8, 3, 10, .int qk_373), (kernel_339, 7, 2, .ref start_342), (r0, 13, 5, .ref kernel_339), (el_8, 3, 12, .null), (el_8, 3, 13, .int z_327), (el_8, 3, 11, .ref chk_307), (el_8, 3, 4, .int ps_301), (el_8, 3, 5, .ref yb_301), (el_8, 3, 6, .ref ye_301), (r0, 13, 10, .ref hands_4), (r0, 13, 4, .ref bo), (bo, 2, 1, .int pc), (bo, 2, 0, .ref pa), (r0, 13, 3, .ref ou)]) [0, 1, 2, 3, 4, 5, 6, 7, 8, 9, 10, 11, 12, 13] rfl (M1 := [(yb_301, 171, 40, ca 1, fb_301), (ye_301, 172, 40, ca 1, fe_301)]) [0, 1] rfl (I1 := [(jFs11, jSef dC dI G_375), (jFdo, jDcc dC dI ca G_375 (some el_8) pho_301), ([(212, 0)], jQc dC dI (ca 5) hands_4 2 fq_5), ([(2, 0), (2, 1)], jOl (dC, dI) G0 2 [bo, ou] s.heap)]) [0, 1, 3, 4] rfl
            clear hh_394
            have hh_397 := hh_396.addI (jYb.ie hd_395)
            clear hh_396
            have hh_399 := hh_397.addIs hbE_375
            try simp only at hr_376
            refine lv_aload_n hx hb dX11_advance_134 rfl (lv_at hl 2 rfl) ?_
            refine lv_aload_n hx hb dX11_advance_135 rfl (lv_at hl 1 rfl) ?_
            have hsz_400 := hh_399.2.2.2.2.2.1
            have htt_400 := hh_399.2.2.2.2.2.2.1
            refine W.room (fun hrc_400 hrs_400 => ?_)
            refine va_callv (A0 := jA base) (H0 := s.heap) (va_runV (As := [.ref el_8]) (rest := []) ⟨hx, hb, hml, hown, hts⟩ (uX11_releaseE l dC dI ca base B hB hAp hB3 hB11 hB13 hB101 hB212 G_375 H_375 r0 el_8 yb_301 ye_301 (pho_301)) (cwV 1 hts (jgV (jWr_43 _ (List.mem_of_getElem? (i := 3) rfl)) (jWr_43 _ (List.mem_of_getElem? (i := 4) rfl)) (jWr_43 _ (List.mem_of_getElem? (i := 5) rfl)) (jWr_1 _ (List.mem_of_getElem? (i := 2) rfl)) (jWr_43 _ (List.mem_of_getElem? (i := 6) rfl))) rfl rfl rfl (by decide +kernel) ⟨by rw [← hR]; exact Nat.le_of_ble_eq_true rfl, by rw [← hR]; exact Nat.le_of_ble_eq_true rfl⟩) ⟨fun a U g mk q => by obtain ⟨q0, q1, q2, qK, q10, q11, q12, q13, q14, q15, q16, q17⟩ := q; exact ⟨q0, q1, q2, jG.calling g mk a qK, (va_K.moved (Vm.Alike.refl U.vm) q10), q11, q12, q13, q14, q15, q16, q17⟩, hh_399.recv (C := RX11) (T := TX11) (N := 19) hB13 rfl (by decide) hg_379 hK, fun U hU hW => ⟨rfl, hU, hh_399.2.1, hG.step hW hU hh_399.1, va_K.moved hW.alike hK2, hg_379, hg_378, hg_383, hg_384, (hh_399.2.2.1.sub (L1 := [(el_8, 3, 5, .ref yb_301), (el_8, 3, 6, .ref ye_301)]) [7, 8] rfl), (hh_399.2.2.2.2.2.2.2.2.sub (L1 := [(jFdo, jDcc dC dI ca G_375 (some el_8) pho_301)]) [3] rfl), trivial⟩⟩ rfl rfl hl.1 rfl (lv_room (Nat.le_of_ble_eq_true rfl)) dX11_advance_136 ⟨by rw [hRc]; show _ + 0 ≤ _; omega, by rw [hRs]; show _ + 0 ≤ _; omega⟩) hh_399.1 (fun q _ h => h) (fun q h => h) (fun u_400 t_400 H_400 locs_400 ht_400 hvm_400 hr_401 hb_400 hz_400 hk_400 hS_400 => ?_)
            rw [ht_400] at hb_400
            obtain ⟨hb_400, hbE_400⟩ := hb_400
            obtain ⟨hb_4001, hb_4002, hb_4003, hb_4004, hb_4005⟩ := hb_400
            have hh_400 : jSt (dC, dI) B base G0 G_375 EX11_advance s.heap ((0 + (23)) + (1)) ((0 + ((183 + 336 * 1))) + (40)) [(el_8, 3, 11, .null), (el_8, 3, 10, .int qk_373), (kernel_339, 7, 2, .ref start_342), (r0, 13, 5, .ref kernel_339), (el_8, 3, 4, .int ps_301), (el_8, 3, 5, .ref yb_301), (el_8, 3, 6, .ref ye_301), (r0, 13, 10, .ref hands_4), (r0, 13, 4, .ref bo), (bo, 2, 1, .int pc), (bo, 2, 0, .ref pa), (r0, 13, 3, .ref ou)] [(yb_301, 171, 40, ca 1, fb_301), (ye_301, 172, 40, ca 1, fe_301)] [(jFdo, jDcc dC dI ca G_375 (some el_8) pho_301), (jFl, jLs dC dI ca G_375 3 none wl), (jFy, jYb dC dI G_375), (jFs11, jSef dC dI G_375), ([(2, 0), (2, 1)], jOl (dC, dI) G0 2 [bo, ou] s.heap)] H_400 locs_400 := (((hh_399.call hb_4001 hb_4002 hb_4003 hb_4004 hS_400 rfl (L1 := [(el_8, 3, 10, .int qk_373), (kernel_339, 7, 2, .ref start_342), (r0, 13, 5, .ref kernel_339), (el_8, 3, 4, .int ps_301), (el_8, 3, 5, .ref yb_301), (el_8, 3, 6, .ref ye_301), (r0, 13, 10, .ref hands_4), (r0, 13, 4, .ref bo), (bo, 2, 1, .int pc), (bo, 2, 0, .ref pa), (r0, 13, 3, .ref ou)]) [0, 1, 2, 6, 7, 8, 9, 10, 11, 12, 13] rfl rfl (M1 := [(yb_301, 171, 40, ca 1, fb_301), (ye_301, 172, 40, ca 1, fe_301)]) [0, 1] rfl rfl (I1 := [(jFl, jLs dC dI ca G_375 3 none wl), (jFy, jYb dC dI G_375), (jFs11, jSef dC dI G_375), ([(2, 0), (2, 1)], jOl (dC, dI) G0 2 [bo, ou] s.heap)]) [0, 1, 2, 5] rfl rfl).more hb_4005)).addIs hbE_400
            clear hh_399 ht_400 hvm_400 hz_400 hk_400 hS_400 hb_4001 hb_4002 hb_4003 hb_4004 hb_4005
            clear  hbE_400
            have hqe_402 : qk_373.toInt = pk_301.toInt + 1 → jEd fe_301 qk_373.toInt = jSo fe_301 pk_301.toInt := fun h9 => by rw [h9]; exact hnx_301.2.2.1
            obtain ⟨phn_402, hphn_402⟩ : ∃ q : Nat, q = pho_301 + (575 * (ps_301.toInt - qk_373.toInt) + (1500 - jEd fe_301 qk_373.toInt)).toNat := ⟨_, rfl⟩
            have hF_402 := jDcc.full (ph1 := phn_402) (hh_400.iv 0 rfl) hg_378 (hh_400.at 5 rfl) (hh_400.at 6 rfl) ⟨(hh_400.2.2.1.sub (L1 := [(el_8, 3, 4, .int ps_301), (el_8, 3, 10, .int qk_373), (el_8, 3, 11, .null)]) [4, 1, 0] rfl), (hh_400.2.2.2.2.2.2.2.1.sub (L1 := [(yb_301, 171, 40, ca 1, fb_301), (ye_301, 172, 40, ca 1, fe_301)]) [0, 1] rfl), hsn_301, by omega⟩ (w := (575 * (ps_301.toInt - qk_373.toInt) + (1500 - jEd fe_301 qk_373.toInt)).toNat) (fun _ => jPo.mkN (by omega)) (by omega) (fun _ => by omega)
            have hh_403 := hh_400.sub (L1 := [(el_8, 3, 11, .null), (el_8, 3, 10, .int qk_373), (kernel_339, 7, 2, .ref start_342), (r0, 13, 5, .ref kernel_339), (el_8, 3, 4, .int ps_301), (el_8, 3, 5, .ref yb_301), (el_8, 3, 6, .ref ye_301), (r0, 13, 10, .ref hands_4), (r0, 13, 4, .ref bo), (bo, 2, 1, .int pc), (bo, 2, 0, .ref pa), (r0, 13, 3, .ref ou)]) [0, 1, 2, 3, 4, 5, 6, 7, 8, 9, 10, 11] rfl (M1 := [(yb_301, 171, 40, ca 1, fb_301), (ye_301, 172, 40, ca 1, fe_301)]) [0, 1] rfl (I1 := [(jFl, jLs dC dI ca G_375 3 none wl), (jFy, jYb dC dI G_375), (jFs11, jSef dC dI G_375), ([(2, 0), (2, 1)], jOl (dC, dI) G0 2 [bo, ou] s.heap)]) [1, 2, 3, 4] rfl
            clear hh_400
            have hh_404 := hh_403.addI (jDcc.ie hF_402)
            clear hh_403
            refine lv_aload_n hx hb dX11_advance_139 rfl (lv_at hl 1 rfl) ?_
            refine j7_read hx hb hown hK (C := RX1) (T := TX1) (N := 17) rfl hly_3_10 hlk_171 (hh_404.at 1 rfl) dX11_advance_140 ?_
            refine lv_aload_n hx hb dX11_advance_143 rfl (lv_at hl 1 rfl) ?_
            refine j7_read hx hb hown hK (C := RX1) (T := TX1) (N := 17) rfl hly_3_4 hlk_168 (hh_404.at 4 rfl) dX11_advance_144 ?_
            refine lv_icmp_ne (tgt := 156) hx hb dX11_advance_147 (by decide) (fun c_405 => ?_) (fun c_405 => ?_)
            · skip
              have c_405' : qk_373.toInt ≠ ps_301.toInt := jb_ne (rfl) (rfl) c_405
              refine lv_aload_n hx hb dX11_advance_156 rfl (lv_at hl 2 rfl) ?_
              have hsz_406 := hh_404.2.2.2.2.2.1
              have htt_406 := hh_404.2.2.2.2.2.2.1
              refine W.room (fun hrc_406 hrs_406 => ?_)
              refine va_callv (A0 := jA base) (H0 := s.heap) (va_runV (As := []) (rest := []) ⟨hx, hb, hml, hown, hts⟩ (uX11_answerReady l dC dI ca base B hB hAp hB1 hB2 hB3 hB4 hB5 hB7 hB8 hB9 hB10 hB11 hB13 hB101 hB102 hB132 hB196 hB210 hB214 hB222 hB280 hB286 hB287 hB288 hB313 G_375 H_400 r0 bo pc pa n_pa ou wl LC LS) (cwV 0 hts (jgV (jWr_89 _ (List.mem_of_getElem? (i := 12) rfl)) (jWr_89 _ (List.mem_of_getElem? (i := 13) rfl)) (jWr_89 _ (List.mem_of_getElem? (i := 14) rfl)) (jWr_1 _ (List.mem_of_getElem? (i := 2) rfl)) (jWr_89 _ (List.mem_of_getElem? (i := 15) rfl))) rfl rfl rfl (by decide +kernel) ⟨by rw [← hR]; exact Nat.le_of_ble_eq_true rfl, by rw [← hR]; exact Nat.le_of_ble_eq_true rfl⟩) ⟨fun a U g mk q => by obtain ⟨q0, q1, q2, qK, q10, q11, q12, q13, q14, q15, q16, q17, q18, q19⟩ := q; exact ⟨q0, q1, q2, jG.calling g mk a qK, (va_K.moved (Vm.Alike.refl U.vm) q10), (jK5.moved (Vm.Alike.refl U.vm) q11), (jK7.calling g mk a q12), q13, q14, q15, q16, q17, q18, q19⟩, hh_404.recv (C := RX11) (T := TX11) (N := 19) hB13 rfl (by decide) hg_379 hK, fun U hU hW => ⟨rfl, hU, hh_404.2.1, hG.step hW hU hh_404.1, va_K.moved hW.alike hK2, jK5.moved hW.alike hK5, (hK7.step hW hU hh_404.1), hg_379, hg_386, hg_387, hg_388, (hh_404.2.2.1.sub (L1 := [(r0, 13, 4, .ref bo), (bo, 2, 1, .int pc), (bo, 2, 0, .ref pa), (r0, 13, 3, .ref ou)]) [8, 9, 10, 11] rfl), (hh_404.2.2.2.2.2.2.2.2.sub (L1 := [(jFy, jYb dC dI G_375), (jFs11, jSef dC dI G_375), (jFl, jLs dC dI ca G_375 3 none wl)]) [2, 3, 1] rfl), (by omega), (by omega), ⟨(by first | (with_reducible assumption) | omega | rfl | fail), (by first | (with_reducible assumption) | omega | rfl | fail), (by first | (with_reducible assumption) | omega | rfl | fail), (by first | (with_reducible assumption) | omega | rfl | fail), (by first | assumption | fail | omega)⟩⟩⟩ rfl rfl hl.1 rfl (lv_room (Nat.le_of_ble_eq_true rfl)) dX11_advance_157 ⟨by rw [hRc]; omega, by rw [hRs]; omega⟩) hh_404.1 (fun q _ h => h) (fun q h => h) (fun u_406 t_406 H_406 locs_406 ht_406 hvm_406 hr_407 hb_406 hz_406 hk_406 hS_406 => ?_)
              obtain ⟨qc_406, qa_406, m_qa_406, G_406⟩ := u_406
              rw [ht_406] at hb_406
              simp only at hb_406
              obtain ⟨⟨hb_4061, hb_4062, hb_4063, hb_4064, hb_4065, hb_4066⟩, hgq_406_0, hN_406, hbO_406, hbE_406⟩ := hb_406
              have hM_406 := hN_406
              have hN_406 : (jNk [0, 1, 2, 3, 4, 6, 7, 8, 9, 10, 12, 13, 14, 15, 16]) G_375 G_406 := hN_406.sub (by decide)
              have hh_406 : jSt (dC, dI) B base G0 G_406 EX11_advance s.heap (((0 + (23)) + (1)) + ((m_qa_406 - n_pa) / 16)) (((0 + ((183 + 336 * 1))) + (40)) + (2 * (m_qa_406 - n_pa))) [(bo, 2, 1, .int qc_406), (bo, 2, 0, .ref qa_406), (el_8, 3, 11, .null), (el_8, 3, 10, .int qk_373), (kernel_339, 7, 2, .ref start_342), (r0, 13, 5, .ref kernel_339), (el_8, 3, 4, .int ps_301), (el_8, 3, 5, .ref yb_301), (el_8, 3, 6, .ref ye_301), (r0, 13, 10, .ref hands_4), (r0, 13, 4, .ref bo), (r0, 13, 3, .ref ou)] [(yb_301, 171, 40, ca 1, fb_301), (ye_301, 172, 40, ca 1, fe_301)] [(jFdo, jDcc dC dI ca G_375 none phn_402)] H_406 locs_406 := (hh_404.callG hb_4061 hb_4062 hb_4063 hb_4064 hb_4065 hS_406 rfl (L1 := [(el_8, 3, 11, .null), (el_8, 3, 10, .int qk_373), (kernel_339, 7, 2, .ref start_342), (r0, 13, 5, .ref kernel_339), (el_8, 3, 4, .int ps_301), (el_8, 3, 5, .ref yb_301), (el_8, 3, 6, .ref ye_301), (r0, 13, 10, .ref hands_4), (r0, 13, 4, .ref bo), (r0, 13, 3, .ref ou)]) [0, 1, 2, 3, 4, 5, 6, 7, 8, 11] rfl rfl (M1 := [(yb_301, 171, 40, ca 1, fb_301), (ye_301, 172, 40, ca 1, fe_301)]) [0, 1] rfl rfl (I1 := [(jFdo, jDcc dC dI ca G_375 none phn_402)]) [0] rfl rfl).more hb_4066
              have hNn_406 : (jNk [0, 1, 2, 3, 4, 6, 7, 8, 9, 10, 12, 13, 14, 15, 16]) G0 G_406 := (hNn_375).tr hN_406
              have hg_408 := hb_4062 _ _ hg_377
              have hg_409 := hb_4062 _ _ hg_378
              have hg_410 := hb_4062 _ _ hg_379
              have hg_411 := hb_4062 _ _ hg_380
              have hg_412 := hb_4062 _ _ hg_381
              have hg_413 := hb_4062 _ _ hg_383
              have hg_414 := hb_4062 _ _ hg_384
              have hg_415 := hb_4062 _ _ hg_385
              have hg_416 := hb_4062 _ _ hg_386
              have hg_417 := hb_4062 _ _ hg_388
              have hd_418 := jDcc.grow (hh_406.iv 0 rfl) hb_4062 hN_406 (by decide)
              have hh_419 := hh_406.sub (L1 := [(bo, 2, 1, .int qc_406), (bo, 2, 0, .ref qa_406), (el_8, 3, 11, .null), (el_8, 3, 10, .int qk_373), (kernel_339, 7, 2, .ref start_342), (r0, 13, 5, .ref kernel_339), (el_8, 3, 4, .int ps_301), (el_8, 3, 5, .ref yb_301), (el_8, 3, 6, .ref ye_301), (r0, 13, 10, .ref hands_4), (r0, 13, 4, .ref bo), (r0, 13, 3, .ref ou)]) [0, 1, 2, 3, 4, 5, 6, 7, 8, 9, 10, 11] rfl (M1 := [(yb_301, 171, 40, ca 1, fb_301), (ye_301, 172, 40, ca 1, fe_301)]) [0, 1] rfl (I1 := []) [] rfl
              clear hh_406
              have hh_420 := hh_419.addI (jDcc.ie hd_418)
              clear hh_419
              have hh_421 := hh_420.addIs hbE_406
              have hd_422 := jOl.trL (hh_404.iv 4 rfl) hh_404.2.2.2.2.1 hbO_406 (by simp)
              have hh_423 := hh_421.addI (jOl.ie (dC := dC) (dI := dI) (G0 := G0) (k := 2) (rs := [bo, ou]) (H0 := s.heap) (F := [(2, 0), (2, 1)]) (C := RX0) (T := TX0) (N := 2) rfl (by decide) hh_421.2.2.2.2.1 (hd_422))
              clear hh_421
              try simp only at hr_407
              obtain ⟨hr_407_0, hr_407_1, hr_407_2, hr_407_3, hr_407_4⟩ := hr_407
              have hsz_424 := hh_423.2.2.2.2.2.1
              have htt_424 := hh_423.2.2.2.2.2.2.1
              refine W.room (fun hrc_424 hrs_424 => ?_)
              refine W.widen (k := LC - s.heap.size) (n := LS - jTot s.heap) (by omega) (by omega) ?_
              rw [hQ]
              exact W.vret hx hb hr (fun t ht hW => ⟨⟨(qc_406, qa_406, m_qa_406, phn_402, G_406), rfl, by (try dsimp only); exact ⟨(by first | (with_reducible assumption) | omega | rfl | fail), (by first | (with_reducible assumption) | omega | rfl | fail), (by first | (with_reducible assumption) | omega | rfl | fail), (by first | (with_reducible assumption) | omega | rfl | fail), (by first | assumption | fail | omega), (by first | (with_reducible assumption) | omega | rfl | fail)⟩, ⟨hh_423.ra (by first | (simp only; omega) | omega) (by first | (simp only; omega) | omega) (M1 := [(bo, 2, 1, .int qc_406), (bo, 2, 0, .ref qa_406)]) [0, 1] rfl ht, hgq_406_0, hNn_406, by rw [ht]; exact hh_423.iv 0 rfl, by rw [ht]; exact hh_423.2.2.2.2.2.2.2.2.sub (L1 := [(jFy, jYb dC dI G_406), (jFs11, jSef dC dI G_406), (jFl, jLs dC dI ca G_406 3 none wl), (jFdo, jDcc dC dI ca G_406 none phn_402)]) [1, 2, 3, 4] rfl⟩⟩, by rw [ht]; try exact hh_423.1.1, fun q h9 hq => by rw [ht]; try exact hh_423.1.2.1 q h9 hq⟩) hh_423.1.2.2 dX11_advance_160
            · skip
              have c_405' : qk_373.toInt = ps_301.toInt := jb_ne_n (rfl) (rfl) c_405
              first | (have hr_374q := hr_374.resolve_left (by omega); clear hr_374) | (have hr_374q := hr_374.resolve_right (by omega); clear hr_374) | skip
              refine lv_aload_n hx hb dX11_advance_150 rfl (lv_at hl 2 rfl) ?_
              refine lv_aload_n hx hb dX11_advance_151 rfl (lv_at hl 1 rfl) ?_
              refine lv_iconst (v := 1) hx hb dX11_advance_152 (by decide) ?_
              have hsz_425 := hh_404.2.2.2.2.2.1
              have htt_425 := hh_404.2.2.2.2.2.2.1
              refine W.room (fun hrc_425 hrs_425 => ?_)
              refine va_callv (A0 := jA base) (H0 := s.heap) (va_runV (As := [.ref el_8, .int 1]) (rest := []) ⟨hx, hb, hml, hown, hts⟩ (uX11_publish l dC dI ca base B hB hAp hB2 hB3 hB4 hB11 hB13 hB101 hB171 hB172 hB173 hB174 hB196 hB210 G_375 H_400 r0 el_8 1 bo pc pa n_pa ou LC LS) (cwV 2 hts (jgV (jWr_39 _ (List.mem_of_getElem? (i := 19) rfl)) (jWr_39 _ (List.mem_of_getElem? (i := 20) rfl)) (jWr_39 _ (List.mem_of_getElem? (i := 21) rfl)) (jWr_1 _ (List.mem_of_getElem? (i := 2) rfl)) (jWr_39 _ (List.mem_of_getElem? (i := 22) rfl))) rfl rfl rfl (by decide +kernel) ⟨by rw [← hR]; exact Nat.le_of_ble_eq_true rfl, by rw [← hR]; exact Nat.le_of_ble_eq_true rfl⟩) ⟨fun a U g mk q => by obtain ⟨q0, q1, q2, qK, q10, q11, q12, q13, q14, q15, q16, q17, q18, q19⟩ := q; exact ⟨q0, q1, q2, jG.calling g mk a qK, (va_K.moved (Vm.Alike.refl U.vm) q10), q11, q12, q13, q14, q15, q16, q17, q18, q19⟩, hh_404.recv (C := RX11) (T := TX11) (N := 19) hB13 rfl (by decide) hg_379 hK, fun U hU hW => ⟨rfl, hU, hh_404.2.1, hG.step hW hU hh_404.1, va_K.moved hW.alike hK2, hg_378, hg_379, (Or.inr rfl), hg_386, hg_387, hg_388, (hh_404.2.2.1.sub (L1 := [(r0, 13, 4, .ref bo), (bo, 2, 1, .int pc), (bo, 2, 0, .ref pa), (r0, 13, 3, .ref ou)]) [8, 9, 10, 11] rfl), (hh_404.2.2.2.2.2.2.2.2.sub (L1 := [(jFy, jYb dC dI G_375)]) [2] rfl), (by omega), (by omega), ⟨(by first | (with_reducible assumption) | omega | rfl | fail), (by first | (with_reducible assumption) | omega | rfl | fail), (by first | (with_reducible assumption) | omega | rfl | fail), (by first | (with_reducible assumption) | omega | rfl | fail), (by first | assumption | fail | omega)⟩⟩⟩ rfl rfl hl.1 rfl (lv_room (Nat.le_of_ble_eq_true rfl)) dX11_advance_153 ⟨by rw [hRc]; omega, by rw [hRs]; omega⟩) hh_404.1 (fun q _ h => h) (fun q h => h) (fun u_425 t_425 H_425 locs_425 ht_425 hvm_425 hr_426 hb_425 hz_425 hk_425 hS_425 => ?_)
              obtain ⟨qc_425, qa_425, m_qa_425, G_425⟩ := u_425
              rw [ht_425] at hb_425
              simp only at hb_425
              obtain ⟨⟨hb_4251, hb_4252, hb_4253, hb_4254, hb_4255, hb_4256⟩, hgq_425_0, hN_425, hbO_425, hbE_425⟩ := hb_425
              have hM_425 := hN_425
              have hN_425 : (jNk [0, 1, 2, 3, 4, 6, 7, 8, 9, 10, 12, 13, 14, 15, 16]) G_375 G_425 := hN_425.sub (by decide)
              have hh_425 : jSt (dC, dI) B base G0 G_425 EX11_advance s.heap (((0 + (23)) + (1)) + ((m_qa_425 - n_pa) / 16)) (((0 + ((183 + 336 * 1))) + (40)) + (2 * (m_qa_425 - n_pa))) [(bo, 2, 1, .int qc_425), (bo, 2, 0, .ref qa_425), (el_8, 3, 11, .null), (el_8, 3, 10, .int qk_373), (kernel_339, 7, 2, .ref start_342), (r0, 13, 5, .ref kernel_339), (el_8, 3, 4, .int ps_301), (el_8, 3, 5, .ref yb_301), (el_8, 3, 6, .ref ye_301), (r0, 13, 10, .ref hands_4), (r0, 13, 4, .ref bo), (r0, 13, 3, .ref ou)] [(yb_301, 171, 40, ca 1, fb_301), (ye_301, 172, 40, ca 1, fe_301)] [(jFdo, jDcc dC dI ca G_375 none phn_402), (jFl, jLs dC dI ca G_375 3 none wl), (jFs11, jSef dC dI G_375)] H_425 locs_425 := (hh_404.callG hb_4251 hb_4252 hb_4253 hb_4254 hb_4255 hS_425 rfl (L1 := [(el_8, 3, 11, .null), (el_8, 3, 10, .int qk_373), (kernel_339, 7, 2, .ref start_342), (r0, 13, 5, .ref kernel_339), (el_8, 3, 4, .int ps_301), (el_8, 3, 5, .ref yb_301), (el_8, 3, 6, .ref ye_301), (r0, 13, 10, .ref hands_4), (r0, 13, 4, .ref bo), (r0, 13, 3, .ref ou)]) [0, 1, 2, 3, 4, 5, 6, 7, 8, 11] rfl rfl (M1 := [(yb_301, 171, 40, ca 1, fb_301), (ye_301, 172, 40, ca 1, fe_301)]) [0, 1] rfl rfl (I1 := [(jFdo, jDcc dC dI ca G_375 none phn_402), (jFl, jLs dC dI ca G_375 3 none wl), (jFs11, jSef dC dI G_375)]) [0, 1, 3] rfl rfl).more hb_4256
              have hNn_425 : (jNk [0, 1, 2, 3, 4, 6, 7, 8, 9, 10, 12, 13, 14, 15, 16]) G0 G_425 := (hNn_375).tr hN_425
              have hg_427 := hb_4252 _ _ hg_377
              have hg_428 := hb_4252 _ _ hg_378
              have hg_429 := hb_4252 _ _ hg_379
              have hg_430 := hb_4252 _ _ hg_380
              have hg_431 := hb_4252 _ _ hg_381
              have hg_432 := hb_4252 _ _ hg_383
              have hg_433 := hb_4252 _ _ hg_384
              have hg_434 := hb_4252 _ _ hg_385
              have hg_435 := hb_4252 _ _ hg_386
              have hg_436 := hb_4252 _ _ hg_388
              have hd_437 := jDcc.grow (hh_425.iv 0 rfl) hb_4252 hN_425 (by decide)
              have hh_438 := hh_425.sub (L1 := [(bo, 2, 1, .int qc_425), (bo, 2, 0, .ref qa_425), (el_8, 3, 11, .null), (el_8, 3, 10, .int qk_373), (kernel_339, 7, 2, .ref start_342), (r0, 13, 5, .ref kernel_339), (el_8, 3, 4, .int ps_301), (el_8, 3, 5, .ref yb_301), (el_8, 3, 6, .ref ye_301), (r0, 13, 10, .ref hands_4), (r0, 13, 4, .ref bo), (r0, 13, 3, .ref ou)]) [0, 1, 2, 3, 4, 5, 6, 7, 8, 9, 10, 11] rfl (M1 := [(yb_301, 171, 40, ca 1, fb_301), (ye_301, 172, 40, ca 1, fe_301)]) [0, 1] rfl (I1 := [(jFl, jLs dC dI ca G_375 3 none wl), (jFs11, jSef dC dI G_375)]) [1, 2] rfl
              clear hh_425
              have hh_439 := hh_438.addI (jDcc.ie hd_437)
              clear hh_438
              have hd_440 := jLs.grow (hh_439.iv 1 rfl) hb_4252 hN_425 (by decide)
              have hh_441 := hh_439.sub (L1 := [(bo, 2, 1, .int qc_425), (bo, 2, 0, .ref qa_425), (el_8, 3, 11, .null), (el_8, 3, 10, .int qk_373), (kernel_339, 7, 2, .ref start_342), (r0, 13, 5, .ref kernel_339), (el_8, 3, 4, .int ps_301), (el_8, 3, 5, .ref yb_301), (el_8, 3, 6, .ref ye_301), (r0, 13, 10, .ref hands_4), (r0, 13, 4, .ref bo), (r0, 13, 3, .ref ou)]) [0, 1, 2, 3, 4, 5, 6, 7, 8, 9, 10, 11] rfl (M1 := [(yb_301, 171, 40, ca 1, fb_301), (ye_301, 172, 40, ca 1, fe_301)]) [0, 1] rfl (I1 := [(jFdo, jDcc dC dI ca G_425 none phn_402), (jFs11, jSef dC dI G_375)]) [0, 2] rfl
              clear hh_439
              have hh_442 := hh_441.addI (jLs.ie hd_440)
              clear hh_441
              have hd_443 := jSef.grow (hh_442.iv 2 rfl) hb_4252 hM_425 (by decide)
              have hh_444 := hh_442.sub (L1 := [(bo, 2, 1, .int qc_425), (bo, 2, 0, .ref qa_425), (el_8, 3, 11, .null), (el_8, 3, 10, .int qk_373), (kernel_339, 7, 2, .ref start_342), (r0, 13, 5, .ref kernel_339), (el_8, 3, 4, .int ps_301), (el_8, 3, 5, .ref yb_301), (el_8, 3, 6, .ref ye_301), (r0, 13, 10, .ref hands_4), (r0, 13, 4, .ref bo), (r0, 13, 3, .ref ou)]) [0, 1, 2, 3, 4, 5, 6, 7, 8, 9, 10, 11] rfl (M1 := [(yb_301, 171, 40, ca 1, fb_301), (ye_301, 172, 40, ca 1, fe_301)]) [0, 1] rfl (I1 := [(jFl, jLs dC dI ca G_425 3 none wl), (jFdo, jDcc dC dI ca G_425 none phn_402)]) [0, 1] rfl
              clear hh_442
              have hh_445 := hh_444.addI (jSef.ie hd_443)
              clear hh_444
              have hh_446 := hh_445.addIs hbE_425
              have hd_447 := jOl.trL (hh_404.iv 4 rfl) hh_404.2.2.2.2.1 hbO_425 (by simp)
              have hh_448 := hh_446.addI (jOl.ie (dC := dC) (dI := dI) (G0 := G0) (k := 2) (rs := [bo, ou]) (H0 := s.heap) (F := [(2, 0), (2, 1)]) (C := RX0) (T := TX0) (N := 2) rfl (by decide) hh_446.2.2.2.2.1 (hd_447))
              clear hh_446
              try simp only at hr_426
              obtain ⟨hr_426_0, hr_426_1, hr_426_2, hr_426_3, hr_426_4⟩ := hr_426
              refine lv_aload_n hx hb dX11_advance_156 rfl (lv_at hl 2 rfl) ?_
              have hsz_449 := hh_448.2.2.2.2.2.1
              have htt_449 := hh_448.2.2.2.2.2.2.1
              refine W.room (fun hrc_449 hrs_449 => ?_)
              refine va_callv (A0 := jA base) (H0 := s.heap) (va_runV (As := []) (rest := []) ⟨hx, hb, hml, hown, hts⟩ (uX11_answerReady l dC dI ca base B hB hAp hB1 hB2 hB3 hB4 hB5 hB7 hB8 hB9 hB10 hB11 hB13 hB101 hB102 hB132 hB196 hB210 hB214 hB222 hB280 hB286 hB287 hB288 hB313 G_425 H_425 r0 bo qc_425 qa_425 m_qa_425 ou wl LC LS) (cwV 0 hts (jgV (jWr_89 _ (List.mem_of_getElem? (i := 12) rfl)) (jWr_89 _ (List.mem_of_getElem? (i := 13) rfl)) (jWr_89 _ (List.mem_of_getElem? (i := 14) rfl)) (jWr_1 _ (List.mem_of_getElem? (i := 2) rfl)) (jWr_89 _ (List.mem_of_getElem? (i := 15) rfl))) rfl rfl rfl (by decide +kernel) ⟨by rw [← hR]; exact Nat.le_of_ble_eq_true rfl, by rw [← hR]; exact Nat.le_of_ble_eq_true rfl⟩) ⟨fun a U g mk q => by obtain ⟨q0, q1, q2, qK, q10, q11, q12, q13, q14, q15, q16, q17, q18, q19⟩ := q; exact ⟨q0, q1, q2, jG.calling g mk a qK, (va_K.moved (Vm.Alike.refl U.vm) q10), (jK5.moved (Vm.Alike.refl U.vm) q11), (jK7.calling g mk a q12), q13, q14, q15, q16, q17, q18, q19⟩, hh_448.recv (C := RX11) (T := TX11) (N := 19) hB13 rfl (by decide) hg_429 hK, fun U hU hW => ⟨rfl, hU, hh_448.2.1, hG.step hW hU hh_448.1, va_K.moved hW.alike hK2, jK5.moved hW.alike hK5, (hK7.step hW hU hh_448.1), hg_429, hg_435, hgq_425_0, hg_436, (hh_448.2.2.1.sub (L1 := [(r0, 13, 4, .ref bo), (bo, 2, 1, .int qc_425), (bo, 2, 0, .ref qa_425), (r0, 13, 3, .ref ou)]) [10, 0, 1, 11] rfl), (hh_448.2.2.2.2.2.2.2.2.sub (L1 := [(jFy, jYb dC dI G_425), (jFs11, jSef dC dI G_425), (jFl, jLs dC dI ca G_425 3 none wl)]) [1, 2, 3] rfl), (by omega), (by omega), ⟨(by first | (with_reducible assumption) | omega | rfl | fail), (by first | (with_reducible assumption) | omega | rfl | fail), (by first | (with_reducible assumption) | omega | rfl | fail), (by first | (with_reducible assumption) | omega | rfl | fail), (by first | assumption | fail | omega)⟩⟩⟩ rfl rfl hl.1 rfl (lv_room (Nat.le_of_ble_eq_true rfl)) dX11_advance_157 ⟨by rw [hRc]; omega, by rw [hRs]; omega⟩) hh_448.1 (fun q _ h => h) (fun q h => h) (fun u_449 t_449 H_449 locs_449 ht_449 hvm_449 hr_450 hb_449 hz_449 hk_449 hS_449 => ?_)
              obtain ⟨qc_449, qa_449, m_qa_449, G_449⟩ := u_449
              rw [ht_449] at hb_449
              simp only at hb_449
              obtain ⟨⟨hb_4491, hb_4492, hb_4493, hb_4494, hb_4495, hb_4496⟩, hgq_449_0, hN_449, hbO_449, hbE_449⟩ := hb_449
              have hM_449 := hN_449
              have hN_449 : (jNk [0, 1, 2, 3, 4, 6, 7, 8, 9, 10, 12, 13, 14, 15, 16]) G_425 G_449 := hN_449.sub (by decide)
              have hh_449 : jSt (dC, dI) B base G0 G_449 EX11_advance s.heap ((((0 + (23)) + (1)) + ((m_qa_425 - n_pa) / 16)) + ((m_qa_449 - m_qa_425) / 16)) ((((0 + ((183 + 336 * 1))) + (40)) + (2 * (m_qa_425 - n_pa))) + (2 * (m_qa_449 - m_qa_425))) [(bo, 2, 1, .int qc_449), (bo, 2, 0, .ref qa_449), (el_8, 3, 11, .null), (el_8, 3, 10, .int qk_373), (kernel_339, 7, 2, .ref start_342), (r0, 13, 5, .ref kernel_339), (el_8, 3, 4, .int ps_301), (el_8, 3, 5, .ref yb_301), (el_8, 3, 6, .ref ye_301), (r0, 13, 10, .ref hands_4), (r0, 13, 4, .ref bo), (r0, 13, 3, .ref ou)] [(yb_301, 171, 40, ca 1, fb_301), (ye_301, 172, 40, ca 1, fe_301)] [(jFdo, jDcc dC dI ca G_425 none phn_402)] H_449 locs_449 := (hh_448.callG hb_4491 hb_4492 hb_4493 hb_4494 hb_4495 hS_449 rfl (L1 := [(el_8, 3, 11, .null), (el_8, 3, 10, .int qk_373), (kernel_339, 7, 2, .ref start_342), (r0, 13, 5, .ref kernel_339), (el_8, 3, 4, .int ps_301), (el_8, 3, 5, .ref yb_301), (el_8, 3, 6, .ref ye_301), (r0, 13, 10, .ref hands_4), (r0, 13, 4, .ref bo), (r0, 13, 3, .ref ou)]) [2, 3, 4, 5, 6, 7, 8, 9, 10, 11] rfl rfl (M1 := [(yb_301, 171, 40, ca 1, fb_301), (ye_301, 172, 40, ca 1, fe_301)]) [0, 1] rfl rfl (I1 := [(jFdo, jDcc dC dI ca G_425 none phn_402)]) [4] rfl rfl).more hb_4496
              have hNn_449 : (jNk [0, 1, 2, 3, 4, 6, 7, 8, 9, 10, 12, 13, 14, 15, 16]) G0 G_449 := (hNn_425).tr hN_449
              have hg_451 := hb_4492 _ _ hg_427
              have hg_452 := hb_4492 _ _ hg_428
              have hg_453 := hb_4492 _ _ hg_429
              have hg_454 := hb_4492 _ _ hg_430
              have hg_455 := hb_4492 _ _ hg_431
              have hg_456 := hb_4492 _ _ hg_432
              have hg_457 := hb_4492 _ _ hg_433
              have hg_458 := hb_4492 _ _ hg_434
              have hg_459 := hb_4492 _ _ hg_435
              have hg_460 := hb_4492 _ _ hg_436
              have hd_461 := jDcc.grow (hh_449.iv 0 rfl) hb_4492 hN_449 (by decide)
              have hh_462 := hh_449.sub (L1 := [(bo, 2, 1, .int qc_449), (bo, 2, 0, .ref qa_449), (el_8, 3, 11, .null), (el_8, 3, 10, .int qk_373), (kernel_339, 7, 2, .ref start_342), (r0, 13, 5, .ref kernel_339), (el_8, 3, 4, .int ps_301), (el_8, 3, 5, .ref yb_301), (el_8, 3, 6, .ref ye_301), (r0, 13, 10, .ref hands_4), (r0, 13, 4, .ref bo), (r0, 13, 3, .ref ou)]) [0, 1, 2, 3, 4, 5, 6, 7, 8, 9, 10, 11] rfl (M1 := [(yb_301, 171, 40, ca 1, fb_301), (ye_301, 172, 40, ca 1, fe_301)]) [0, 1] rfl (I1 := []) [] rfl
              clear hh_449
              have hh_463 := hh_462.addI (jDcc.ie hd_461)
              clear hh_462
              have hh_464 := hh_463.addIs hbE_449
              have hd_465 := jOl.trL (hh_448.iv 0 rfl) hh_448.2.2.2.2.1 hbO_449 (by simp)
              have hh_466 := hh_464.addI (jOl.ie (dC := dC) (dI := dI) (G0 := G0) (k := 2) (rs := [bo, ou]) (H0 := s.heap) (F := [(2, 0), (2, 1)]) (C := RX0) (T := TX0) (N := 2) rfl (by decide) hh_464.2.2.2.2.1 (hd_465))
              clear hh_464
              try simp only at hr_450
              obtain ⟨hr_450_0, hr_450_1, hr_450_2, hr_450_3, hr_450_4⟩ := hr_450
              have hsz_467 := hh_466.2.2.2.2.2.1
              have htt_467 := hh_466.2.2.2.2.2.2.1
              refine W.room (fun hrc_467 hrs_467 => ?_)
              refine W.widen (k := LC - s.heap.size) (n := LS - jTot s.heap) (by omega) (by omega) ?_
              rw [hQ]
              exact W.vret hx hb hr (fun t ht hW => ⟨⟨(qc_449, qa_449, m_qa_449, phn_402, G_449), rfl, by (try dsimp only); exact ⟨(by first | (with_reducible assumption) | omega | rfl | fail), (by first | (with_reducible assumption) | omega | rfl | fail), (by first | (with_reducible assumption) | omega | rfl | fail), (by first | (with_reducible assumption) | omega | rfl | fail), (by first | assumption | fail | omega), (by first | (with_reducible assumption) | omega | rfl | fail)⟩, ⟨hh_466.ra (by first | (simp only; omega) | omega) (by first | (simp only; omega) | omega) (M1 := [(bo, 2, 1, .int qc_449), (bo, 2, 0, .ref qa_449)]) [0, 1] rfl ht, hgq_449_0, hNn_449, by rw [ht]; exact hh_466.iv 0 rfl, by rw [ht]; exact hh_466.2.2.2.2.2.2.2.2.sub (L1 := [(jFy, jYb dC dI G_449), (jFs11, jSef dC dI G_449), (jFl, jLs dC dI ca G_449 3 none wl), (jFdo, jDcc dC dI ca G_449 none phn_402)]) [1, 2, 3, 4] rfl⟩⟩, by rw [ht]; try exact hh_466.1.1, fun q h9 hq => by rw [ht]; try exact hh_466.1.2.1 q h9 hq⟩) hh_466.1.2.2 dX11_advance_160
          · refine j7_read hx hb hown hK (C := RX1) (T := TX1) (N := 17) rfl hly_3_12 hlk_580 (hh_335.at 0 rfl) dX11_advance_72 ?_
            refine lv_astore_n (lv' := [(3, .ref found_336), (2, .ref el_8), (0, .ref r0), (1, .int a1)]) hx hb dX11_advance_75 rfl hl (by decide) rfl (fun ls hl => ?_)
            refine lv_aload_n hx hb dX11_advance_76 rfl (lv_at hl 0 rfl) ?_
            refine lv_ifnull hx hb dX11_advance_77 ?_
            refine lv_aload_n hx hb dX11_advance_80 rfl (lv_at hl 2 rfl) ?_
            refine lv_dup hx hb dX11_advance_81 rfl ?_
            obtain ⟨v_468, hv_468, hh_469⟩ := hh_335.pin (C := RX11) (T := TX11) (N := 19) hB13 rfl (by decide) hg_r0 (i := 13) (by decide) rfl
            clear hh_335
            obtain ⟨reused_470, rfl⟩ := hv_468
            refine j7_read hx hb hown hK (C := RX11) (T := TX11) (N := 19) rfl hly_13_13 hlk_148 (hh_469.at 0 rfl) dX11_advance_82 ?_
            refine lv_iconst (v := 1) hx hb dX11_advance_85 (by decide) ?_
            refine lv_iadd hx hb dX11_advance_86 ?_
            refine lv_topi (fun z_471 ez_471 => ?_)
            refine j7_put hx hb hown hK hh_469 hB hAp hB13 (C := RX11) (T := TX11) (N := 19) rfl (by decide) hg_r0 (i := 13) (by decide) hly_13_13 rfl hlk_148 rfl (ty := .int) (v := .int z_471) (by decide +kernel) rfl rfl (⟨_, rfl⟩) rfl (L1 := [(el_8, 3, 12, .ref found_336), (el_8, 3, 13, .int z_327), (el_8, 3, 11, .ref chk_307), (el_8, 3, 4, .int ps_301), (el_8, 3, 10, .int pk_301), (el_8, 3, 5, .ref yb_301), (el_8, 3, 6, .ref ye_301), (r0, 13, 10, .ref hands_4), (r0, 13, 4, .ref bo), (bo, 2, 1, .int pc), (bo, 2, 0, .ref pa), (r0, 13, 3, .ref ou)]) [1, 2, 3, 4, 5, 6, 7, 8, 9, 10, 11, 12] rfl rfl rfl dX11_advance_87 (fun H_472 locs_472 hh_472 => ?_)
            clear hh_469
            refine lv_goto (tgt := 124) hx hb dX11_advance_90 (by decide) ?_
            refine lv_aload_n hx hb dX11_advance_124 rfl (lv_at hl 1 rfl) ?_
            refine lv_aload_n hx hb dX11_advance_125 rfl (lv_at hl 0 rfl) ?_
            have hsz_473 := hh_472.2.2.2.2.2.1
            have htt_473 := hh_472.2.2.2.2.2.2.1
            refine W.room (fun hrc_473 hrs_473 => ?_)
            refine va_callv (A0 := jA base) (H0 := s.heap) (va_runV (As := [.ref found_336]) (rest := []) ⟨hx, hb, hml, hown, hts⟩ (uX1_addCheckedE l dC dI ca base B hB hAp hB3 hB11 hB210 G0 H_472 el_8 found_336 yb_301 ye_301 ps_301 pk_301 (pho_301)) (cwV 1 hts (jgV (jWr_89 _ (List.mem_of_getElem? (i := 4) rfl)) (jWr_89 _ (List.mem_of_getElem? (i := 5) rfl)) (jWr_89 _ (List.mem_of_getElem? (i := 6) rfl)) (jWr_2 _ (List.mem_of_getElem? (i := 21) rfl)) (jWr_89 _ (List.mem_of_getElem? (i := 7) rfl))) rfl rfl rfl (by decide +kernel) ⟨by rw [← hR]; exact Nat.le_of_ble_eq_true rfl, by rw [← hR]; exact Nat.le_of_ble_eq_true rfl⟩) ⟨fun a U g mk q => by obtain ⟨q0, q1, q2, qK, q10, q11, q12, q13, q14, q15, q16, q17⟩ := q; exact ⟨q0, q1, q2, jG.calling g mk a qK, (va_K.moved (Vm.Alike.refl U.vm) q10), q11, q12, q13, q14, q15, q16, q17⟩, hh_472.recv (C := RX1) (T := TX1) (N := 17) hB3 rfl (by decide) hg_el_300 hK, fun U hU hW => ⟨rfl, hU, hh_472.2.1, hG.step hW hU hh_472.1, va_K.moved hW.alike hK2, hg_el_300, hg_found_336, hgb_301, hge_301, (hh_472.2.2.1.sub (L1 := [(el_8, 3, 5, .ref yb_301), (el_8, 3, 6, .ref ye_301), (el_8, 3, 4, .int ps_301), (el_8, 3, 10, .int pk_301)]) [6, 7, 4, 5] rfl), (hh_472.2.2.2.2.2.2.2.2.sub (L1 := [(jFdo, jDcc dC dI ca G0 (some el_8) pho_301)]) [0] rfl), ⟨(by first | (with_reducible assumption) | omega | rfl | fail), (by first | (with_reducible assumption) | omega | rfl | fail), (by first | (with_reducible assumption) | omega | rfl | fail), (by first | (with_reducible assumption) | omega | rfl | fail)⟩⟩⟩ rfl rfl hl.1 rfl (lv_room (Nat.le_of_ble_eq_true rfl)) dX11_advance_126 ⟨by rw [hRc]; show _ + 0 ≤ _; omega, by rw [hRs]; show _ + 0 ≤ _; omega⟩) hh_472.1 (fun q _ h => h) (fun q h => h) (fun u_473 t_473 H_473 locs_473 ht_473 hvm_473 hr_474 hb_473 hz_473 hk_473 hS_473 => ?_)
            obtain ⟨qk_473, rfl⟩ : ∃ z, z = u_473 := ⟨_, rfl⟩
            rw [ht_473] at hb_473
            obtain ⟨hb_473, hbE_473⟩ := hb_473
            obtain ⟨hb_473, hbO_473⟩ := hb_473
            obtain ⟨hb_4731, hb_4732, hb_4733, hb_4734, hb_4735⟩ := hb_473
            have hh_473 : jSt (dC, dI) B base G0 G0 EX11_advance s.heap 0 0 [(el_8, 3, 10, .int qk_473), (r0, 13, 13, .int z_471), (el_8, 3, 12, .ref found_336), (el_8, 3, 13, .int z_327), (el_8, 3, 11, .ref chk_307), (el_8, 3, 4, .int ps_301), (el_8, 3, 5, .ref yb_301), (el_8, 3, 6, .ref ye_301), (r0, 13, 10, .ref hands_4), (r0, 13, 4, .ref bo), (bo, 2, 1, .int pc), (bo, 2, 0, .ref pa), (r0, 13, 3, .ref ou)] [(yb_301, 171, 40, ca 1, fb_301), (ye_301, 172, 40, ca 1, fe_301)] [(jFdo, jDcc dC dI ca G0 (some el_8) pho_301), ([(212, 0)], jQc dC dI (ca 5) hands_4 2 fq_5), ([(2, 0), (2, 1)], jOl (dC, dI) G0 2 [bo, ou] s.heap), (jFy, jYb dC dI G0), (jFs11, jSef dC dI G0), (jFl, jLs dC dI ca G0 3 none wl)] H_473 locs_473 := (((hh_472.call hb_4731 hb_4732 hb_4733 hb_4734 hS_473 rfl (L1 := [(r0, 13, 13, .int z_471), (el_8, 3, 12, .ref found_336), (el_8, 3, 13, .int z_327), (el_8, 3, 11, .ref chk_307), (el_8, 3, 4, .int ps_301), (el_8, 3, 5, .ref yb_301), (el_8, 3, 6, .ref ye_301), (r0, 13, 10, .ref hands_4), (r0, 13, 4, .ref bo), (bo, 2, 1, .int pc), (bo, 2, 0, .ref pa), (r0, 13, 3, .ref ou)]) [0, 1, 2, 3, 4, 6, 7, 8, 9, 10, 11, 12] rfl rfl (M1 := [(yb_301, 171, 40, ca 1, fb_301), (ye_301, 172, 40, ca 1, fe_301)]) [0, 1] rfl rfl (I1 := [([(212, 0)], jQc dC dI (ca 5) hands_4 2 fq_5), ([(2, 0), (2, 1)], jOl (dC, dI) G0 2 [bo, ou] s.heap), (jFy, jYb dC dI G0), (jFs11, jSef dC dI G0), (jFl, jLs dC dI ca G0 3 none wl)]) [1, 2, 3, 4, 5] rfl rfl).more hb_4735)).addIs hbE_473
            clear hh_472 ht_473 hvm_473 hz_473 hk_473 hS_473 hb_4731 hb_4732 hb_4733 hb_4734 hb_4735
            clear  hbE_473
            refine lv_aload_n hx hb dX11_advance_129 rfl (lv_at hl 2 rfl) ?_
            refine lv_aload_n hx hb dX11_advance_130 rfl (lv_at hl 0 rfl) ?_
            have hsz_475 := hh_473.2.2.2.2.2.1
            have htt_475 := hh_473.2.2.2.2.2.2.1
            refine W.room (fun hrc_475 hrs_475 => ?_)
            refine va_callv (A0 := jA base) (H0 := s.heap) (va_runV (As := [.ref found_336]) (rest := []) ⟨hx, hb, hml, hown, hts⟩ (uX11_remember l dC dI ca base B hB hAp hB1 hB11 hB13 hB101 hB223 G0 H_473 r0 found_336 wl LC LS) (cwV 1 hts (jgV (jWr_89 _ (List.mem_of_getElem? (i := 8) rfl)) (jWr_89 _ (List.mem_of_getElem? (i := 9) rfl)) (jWr_89 _ (List.mem_of_getElem? (i := 10) rfl)) (jWr_1 _ (List.mem_of_getElem? (i := 2) rfl)) (jWr_89 _ (List.mem_of_getElem? (i := 11) rfl))) rfl rfl rfl (by decide +kernel) ⟨by rw [← hR]; exact Nat.le_of_ble_eq_true rfl, by rw [← hR]; exact Nat.le_of_ble_eq_true rfl⟩) ⟨fun a U g mk q => by obtain ⟨q0, q1, q2, qK, q10, q11, q12, q13, q14, q15⟩ := q; exact ⟨q0, q1, q2, jG.calling g mk a qK, (jK7.calling g mk a q10), q11, q12, q13, q14, q15⟩, hh_473.recv (C := RX11) (T := TX11) (N := 19) hB13 rfl (by decide) hg_r0 hK, fun U hU hW => ⟨rfl, hU, hh_473.2.1, hG.step hW hU hh_473.1, (hK7.step hW hU hh_473.1), hg_r0, hg_found_336, jP.nil, (hh_473.2.2.2.2.2.2.2.2.sub (L1 := [(jFl, jLs dC dI ca G0 3 none wl)]) [5] rfl), (by omega), (by omega), trivial⟩⟩ rfl rfl hl.1 rfl (lv_room (Nat.le_of_ble_eq_true rfl)) dX11_advance_131 ⟨by rw [hRc]; omega, by rw [hRs]; omega⟩) hh_473.1 (fun q _ h => h) (fun q h => h) (fun u_475 t_475 H_475 locs_475 ht_475 hvm_475 hr_476 hb_475 hz_475 hk_475 hS_475 => ?_)
            rw [ht_475] at hb_475
            obtain ⟨G_475, rfl⟩ : ∃ z, z = u_475 := ⟨_, rfl⟩
            try simp only at hb_475
            obtain ⟨⟨hb_4751, hb_4752, hb_4753, hb_4754, hb_4755, hb_4756⟩, hN_475, hbE_475⟩ := hb_475
            have hM_475 := hN_475
            have hN_475 : (jNk [0, 1, 2, 3, 4, 6, 7, 8, 9, 10, 12, 13, 14, 15, 16]) G0 G_475 := hN_475.sub (by decide)
            have hh_475 : jSt (dC, dI) B base G0 G_475 EX11_advance s.heap (0 + (1)) (0 + (40)) [(el_8, 3, 10, .int qk_473), (r0, 13, 13, .int z_471), (el_8, 3, 12, .ref found_336), (el_8, 3, 13, .int z_327), (el_8, 3, 11, .ref chk_307), (el_8, 3, 4, .int ps_301), (el_8, 3, 5, .ref yb_301), (el_8, 3, 6, .ref ye_301), (r0, 13, 10, .ref hands_4), (r0, 13, 4, .ref bo), (bo, 2, 1, .int pc), (bo, 2, 0, .ref pa), (r0, 13, 3, .ref ou)] [(yb_301, 171, 40, ca 1, fb_301), (ye_301, 172, 40, ca 1, fe_301)] [(jFdo, jDcc dC dI ca G0 (some el_8) pho_301), ([(212, 0)], jQc dC dI (ca 5) hands_4 2 fq_5), ([(2, 0), (2, 1)], jOl (dC, dI) G0 2 [bo, ou] s.heap), (jFy, jYb dC dI G0), (jFs11, jSef dC dI G0)] H_475 locs_475 := (hh_473.callG hb_4751 hb_4752 hb_4753 hb_4754 hb_4755 hS_475 rfl (L1 := [(el_8, 3, 10, .int qk_473), (r0, 13, 13, .int z_471), (el_8, 3, 12, .ref found_336), (el_8, 3, 13, .int z_327), (el_8, 3, 11, .ref chk_307), (el_8, 3, 4, .int ps_301), (el_8, 3, 5, .ref yb_301), (el_8, 3, 6, .ref ye_301), (r0, 13, 10, .ref hands_4), (r0, 13, 4, .ref bo), (bo, 2, 1, .int pc), (bo, 2, 0, .ref pa), (r0, 13, 3, .ref ou)]) [0, 1, 2, 3, 4, 5, 6, 7, 8, 9, 10, 11, 12] rfl rfl (M1 := [(yb_301, 171, 40, ca 1, fb_301), (ye_301, 172, 40, ca 1, fe_301)]) [0, 1] rfl rfl (I1 := [(jFdo, jDcc dC dI ca G0 (some el_8) pho_301), ([(212, 0)], jQc dC dI (ca 5) hands_4 2 fq_5), ([(2, 0), (2, 1)], jOl (dC, dI) G0 2 [bo, ou] s.heap), (jFy, jYb dC dI G0), (jFs11, jSef dC dI G0)]) [0, 1, 2, 3, 4] rfl rfl).more hb_4756
            have hNn_475 : (jNk [0, 1, 2, 3, 4, 6, 7, 8, 9, 10, 12, 13, 14, 15, 16]) G0 G_475 := (jNk.rf).tr hN_475
            have hg_477 := hb_4752 _ _ hg_found_336
            have hg_478 := hb_4752 _ _ hg_el_300
            have hg_479 := hb_4752 _ _ hg_r0
            have hg_480 := hb_4752 _ _ hg_chk_307
            have hg_481 := hb_4752 _ _ hgb_301
            have hg_482 := hb_4752 _ _ hge_301
            have hg_483 := hb_4752 _ _ hg_hands_4
            have hg_484 := hb_4752 _ _ hg_bo
            have hg_485 := hb_4752 _ _ hg_pa
            have hg_486 := hb_4752 _ _ hg_ou
            have hd_487 := jDcc.grow (hh_475.iv 0 rfl) hb_4752 hN_475 (by decide)
            have hh_488 := hh_475.sub (L1 := [(el_8, 3, 10, .int qk_473), (r0, 13, 13, .int z_471), (el_8, 3, 12, .ref found_336), (el_8, 3, 13, .int z_327), (el_8, 3, 11, .ref chk_307), (el_8, 3, 4, .int ps_301), (el_8, 3, 5, .ref yb_301), (el_8, 3, 6, .ref ye_301), (r0, 13, 10, .ref hands_4), (r0, 13, 4, .ref bo), (bo, 2, 1, .int pc), (bo, 2, 0, .ref pa), (r0, 13, 3, .ref ou)]) [0, 1, 2, 3, 4, 5, 6, 7, 8, 9, 10, 11, 12] rfl (M1 := [(yb_301, 171, 40, ca 1, fb_301), (ye_301, 172, 40, ca 1, fe_301)]) [0, 1] rfl (I1 := [([(212, 0)], jQc dC dI (ca 5) hands_4 2 fq_5), ([(2, 0), (2, 1)], jOl (dC, dI) G0 2 [bo, ou] s.heap), (jFy, jYb dC dI G0), (jFs11, jSef dC dI G0)]) [1, 2, 3, 4] rfl
            clear hh_475
            have hh_489 := hh_488.addI (jDcc.ie hd_487)
            clear hh_488
            have hd_491 := jYb.grow (hh_489.iv 3 rfl) hb_4752 hN_475 (by decide)
            have hh_492 := hh_489.sub (L1 := [(el_8, 3, 10, .int qk_473), (r0, 13, 13, .int z_471), (el_8, 3, 12, .ref found_336), (el_8, 3, 13, .int z_327), (el_8, 3, 11, .ref chk_307), (el_8, 3, 4, .int ps_301), (el_8, 3, 5, .ref yb_301), (el_8, 3, 6, .ref ye_301), (r0, 13, 10, .ref hands_4), (r0, 13, 4, .ref bo), (bo, 2, 1, .int pc), (bo, 2, 0, .ref pa), (r0, 13, 3, .ref ou)]) [0, 1, 2, 3, 4, 5, 6, 7, 8, 9, 10, 11, 12] rfl (M1 := [(yb_301, 171, 40, ca 1, fb_301), (ye_301, 172, 40, ca 1, fe_301)]) [0, 1] rfl (I1 := [(jFdo, jDcc dC dI ca G_475 (some el_8) pho_301), ([(212, 0)], jQc dC dI (ca 5) hands_4 2 fq_5), ([(2, 0), (2, 1)], jOl (dC, dI) G0 2 [bo, ou] s.heap), (jFs11, jSef dC dI G0)]) [0, 1, 2, 4] rfl
            clear hh_489
            have hh_493 := hh_492.addI (jYb.ie hd_491)
            clear hh_492
            have hd_494 := jSef.grow (hh_493.iv 4 rfl) hb_4752 hM_475 (by decide)
            have hh_495 := hh_493.sub (L1 := [(el_8, 3, 10, .int qk_473), (r0, 13, 13, .int z_471), (el_8, 3, 12, .ref found_336), (el_8, 3, 13, .int z_327), (el_8, 3, 11, .ref chk_307), (el_8, 3, 4, .int ps_301), (el_8, 3, 5, .ref yb_301), (el_8, 3, 6, .ref ye_301), (r0, 13, 10, .ref hands_4), (r0, 13, 4, .ref bo), (bo, 2, 1, .int pc), (bo, 2, 0, .ref pa), (r0, 13, 3, .ref ou)]) [0, 1, 2, 3, 4, 5, 6, 7, 8, 9, 10, 11, 12] rfl (M1 := [(yb_301, 171, 40, ca 1, fb_301), (ye_301, 172, 40, ca 1, fe_301)]) [0, 1] rfl (I1 := [(jFy, jYb dC dI G_475), (jFdo, jDcc dC dI ca G_475 (some el_8) pho_301), ([(212, 0)], jQc dC dI (ca 5) hands_4 2 fq_5), ([(2, 0), (2, 1)], jOl (dC, dI) G0 2 [bo, ou] s.heap)]) [0, 1, 2, 3] rfl
            clear hh_493
            have hh_496 := hh_495.addI (jSef.ie hd_494)
            clear hh_495
            have hh_497 := hh_496.addIs hbE_475
            try simp only at hr_476
            refine lv_aload_n hx hb dX11_advance_134 rfl (lv_at hl 2 rfl) ?_
            refine lv_aload_n hx hb dX11_advance_135 rfl (lv_at hl 1 rfl) ?_
            have hsz_498 := hh_497.2.2.2.2.2.1
            have htt_498 := hh_497.2.2.2.2.2.2.1
            refine W.room (fun hrc_498 hrs_498 => ?_)
            refine va_callv (A0 := jA base) (H0 := s.heap) (va_runV (As := [.ref el_8]) (rest := []) ⟨hx, hb, hml, hown, hts⟩ (uX11_releaseE l dC dI ca base B hB hAp hB3 hB11 hB13 hB101 hB212 G_475 H_475 r0 el_8 yb_301 ye_301 (pho_301)) (cwV 1 hts (jgV (jWr_43 _ (List.mem_of_getElem? (i := 3) rfl)) (jWr_43 _ (List.mem_of_getElem? (i := 4) rfl)) (jWr_43 _ (List.mem_of_getElem? (i := 5) rfl)) (jWr_1 _ (List.mem_of_getElem? (i := 2) rfl)) (jWr_43 _ (List.mem_of_getElem? (i := 6) rfl))) rfl rfl rfl (by decide +kernel) ⟨by rw [← hR]; exact Nat.le_of_ble_eq_true rfl, by rw [← hR]; exact Nat.le_of_ble_eq_true rfl⟩) ⟨fun a U g mk q => by obtain ⟨q0, q1, q2, qK, q10, q11, q12, q13, q14, q15, q16, q17⟩ := q; exact ⟨q0, q1, q2, jG.calling g mk a qK, (va_K.moved (Vm.Alike.refl U.vm) q10), q11, q12, q13, q14, q15, q16, q17⟩, hh_497.recv (C := RX11) (T := TX11) (N := 19) hB13 rfl (by decide) hg_479 hK, fun U hU hW => ⟨rfl, hU, hh_497.2.1, hG.step hW hU hh_497.1, va_K.moved hW.alike hK2, hg_479, hg_478, hg_481, hg_482, (hh_497.2.2.1.sub (L1 := [(el_8, 3, 5, .ref yb_301), (el_8, 3, 6, .ref ye_301)]) [6, 7] rfl), (hh_497.2.2.2.2.2.2.2.2.sub (L1 := [(jFdo, jDcc dC dI ca G_475 (some el_8) pho_301)]) [3] rfl), trivial⟩⟩ rfl rfl hl.1 rfl (lv_room (Nat.le_of_ble_eq_true rfl)) dX11_advance_136 ⟨by rw [hRc]; show _ + 0 ≤ _; omega, by rw [hRs]; show _ + 0 ≤ _; omega⟩) hh_497.1 (fun q _ h => h) (fun q h => h) (fun u_498 t_498 H_498 locs_498 ht_498 hvm_498 hr_499 hb_498 hz_498 hk_498 hS_498 => ?_)
            rw [ht_498] at hb_498
            obtain ⟨hb_498, hbE_498⟩ := hb_498
            obtain ⟨hb_4981, hb_4982, hb_4983, hb_4984, hb_4985⟩ := hb_498
            have hh_498 : jSt (dC, dI) B base G0 G_475 EX11_advance s.heap (0 + (1)) (0 + (40)) [(el_8, 3, 11, .null), (el_8, 3, 10, .int qk_473), (r0, 13, 13, .int z_471), (el_8, 3, 4, .int ps_301), (el_8, 3, 5, .ref yb_301), (el_8, 3, 6, .ref ye_301), (r0, 13, 10, .ref hands_4), (r0, 13, 4, .ref bo), (bo, 2, 1, .int pc), (bo, 2, 0, .ref pa), (r0, 13, 3, .ref ou)] [(yb_301, 171, 40, ca 1, fb_301), (ye_301, 172, 40, ca 1, fe_301)] [(jFdo, jDcc dC dI ca G_475 (some el_8) pho_301), (jFl, jLs dC dI ca G_475 3 none wl), (jFs11, jSef dC dI G_475), (jFy, jYb dC dI G_475), ([(2, 0), (2, 1)], jOl (dC, dI) G0 2 [bo, ou] s.heap)] H_498 locs_498 := (((hh_497.call hb_4981 hb_4982 hb_4983 hb_4984 hS_498 rfl (L1 := [(el_8, 3, 10, .int qk_473), (r0, 13, 13, .int z_471), (el_8, 3, 4, .int ps_301), (el_8, 3, 5, .ref yb_301), (el_8, 3, 6, .ref ye_301), (r0, 13, 10, .ref hands_4), (r0, 13, 4, .ref bo), (bo, 2, 1, .int pc), (bo, 2, 0, .ref pa), (r0, 13, 3, .ref ou)]) [0, 1, 5, 6, 7, 8, 9, 10, 11, 12] rfl rfl (M1 := [(yb_301, 171, 40, ca 1, fb_301), (ye_301, 172, 40, ca 1, fe_301)]) [0, 1] rfl rfl (I1 := [(jFl, jLs dC dI ca G_475 3 none wl), (jFs11, jSef dC dI G_475), (jFy, jYb dC dI G_475), ([(2, 0), (2, 1)], jOl (dC, dI) G0 2 [bo, ou] s.heap)]) [0, 1, 2, 5] rfl rfl).more hb_4985)).addIs hbE_498
            clear hh_497 ht_498 hvm_498 hz_498 hk_498 hS_498 hb_4981 hb_4982 hb_4983 hb_4984 hb_4985
            clear  hbE_498
            have hqe_500 : qk_473.toInt = pk_301.toInt + 1 → jEd fe_301 qk_473.toInt = jSo fe_301 pk_301.toInt := fun h9 => by rw [h9]; exact hnx_301.2.2.1
            obtain ⟨phn_500, hphn_500⟩ : ∃ q : Nat, q = pho_301 + (575 * (ps_301.toInt - qk_473.toInt) + (1500 - jEd fe_301 qk_473.toInt)).toNat := ⟨_, rfl⟩
            have hF_500 := jDcc.full (ph1 := phn_500) (hh_498.iv 0 rfl) hg_478 (hh_498.at 4 rfl) (hh_498.at 5 rfl) ⟨(hh_498.2.2.1.sub (L1 := [(el_8, 3, 4, .int ps_301), (el_8, 3, 10, .int qk_473), (el_8, 3, 11, .null)]) [3, 1, 0] rfl), (hh_498.2.2.2.2.2.2.2.1.sub (L1 := [(yb_301, 171, 40, ca 1, fb_301), (ye_301, 172, 40, ca 1, fe_301)]) [0, 1] rfl), hsn_301, by omega⟩ (w := (575 * (ps_301.toInt - qk_473.toInt) + (1500 - jEd fe_301 qk_473.toInt)).toNat) (fun _ => jPo.mkN (by omega)) (by omega) (fun _ => by omega)
            have hh_501 := hh_498.sub (L1 := [(el_8, 3, 11, .null), (el_8, 3, 10, .int qk_473), (r0, 13, 13, .int z_471), (el_8, 3, 4, .int ps_301), (el_8, 3, 5, .ref yb_301), (el_8, 3, 6, .ref ye_301), (r0, 13, 10, .ref hands_4), (r0, 13, 4, .ref bo), (bo, 2, 1, .int pc), (bo, 2, 0, .ref pa), (r0, 13, 3, .ref ou)]) [0, 1, 2, 3, 4, 5, 6, 7, 8, 9, 10] rfl (M1 := [(yb_301, 171, 40, ca 1, fb_301), (ye_301, 172, 40, ca 1, fe_301)]) [0, 1] rfl (I1 := [(jFl, jLs dC dI ca G_475 3 none wl), (jFs11, jSef dC dI G_475), (jFy, jYb dC dI G_475), ([(2, 0), (2, 1)], jOl (dC, dI) G0 2 [bo, ou] s.heap)]) [1, 2, 3, 4] rfl
            clear hh_498
            have hh_502 := hh_501.addI (jDcc.ie hF_500)
            clear hh_501
            refine lv_aload_n hx hb dX11_advance_139 rfl (lv_at hl 1 rfl) ?_
            refine j7_read hx hb hown hK (C := RX1) (T := TX1) (N := 17) rfl hly_3_10 hlk_171 (hh_502.at 1 rfl) dX11_advance_140 ?_
            refine lv_aload_n hx hb dX11_advance_143 rfl (lv_at hl 1 rfl) ?_
            refine j7_read hx hb hown hK (C := RX1) (T := TX1) (N := 17) rfl hly_3_4 hlk_168 (hh_502.at 3 rfl) dX11_advance_144 ?_
            refine lv_icmp_ne (tgt := 156) hx hb dX11_advance_147 (by decide) (fun c_503 => ?_) (fun c_503 => ?_)
            · skip
              have c_503' : qk_473.toInt ≠ ps_301.toInt := jb_ne (rfl) (rfl) c_503
              refine lv_aload_n hx hb dX11_advance_156 rfl (lv_at hl 2 rfl) ?_
              have hsz_504 := hh_502.2.2.2.2.2.1
              have htt_504 := hh_502.2.2.2.2.2.2.1
              refine W.room (fun hrc_504 hrs_504 => ?_)
              refine va_callv (A0 := jA base) (H0 := s.heap) (va_runV (As := []) (rest := []) ⟨hx, hb, hml, hown, hts⟩ (uX11_answerReady l dC dI ca base B hB hAp hB1 hB2 hB3 hB4 hB5 hB7 hB8 hB9 hB10 hB11 hB13 hB101 hB102 hB132 hB196 hB210 hB214 hB222 hB280 hB286 hB287 hB288 hB313 G_475 H_498 r0 bo pc pa n_pa ou wl LC LS) (cwV 0 hts (jgV (jWr_89 _ (List.mem_of_getElem? (i := 12) rfl)) (jWr_89 _ (List.mem_of_getElem? (i := 13) rfl)) (jWr_89 _ (List.mem_of_getElem? (i := 14) rfl)) (jWr_1 _ (List.mem_of_getElem? (i := 2) rfl)) (jWr_89 _ (List.mem_of_getElem? (i := 15) rfl))) rfl rfl rfl (by decide +kernel) ⟨by rw [← hR]; exact Nat.le_of_ble_eq_true rfl, by rw [← hR]; exact Nat.le_of_ble_eq_true rfl⟩) ⟨fun a U g mk q => by obtain ⟨q0, q1, q2, qK, q10, q11, q12, q13, q14, q15, q16, q17, q18, q19⟩ := q; exact ⟨q0, q1, q2, jG.calling g mk a qK, (va_K.moved (Vm.Alike.refl U.vm) q10), (jK5.moved (Vm.Alike.refl U.vm) q11), (jK7.calling g mk a q12), q13, q14, q15, q16, q17, q18, q19⟩, hh_502.recv (C := RX11) (T := TX11) (N := 19) hB13 rfl (by decide) hg_479 hK, fun U hU hW => ⟨rfl, hU, hh_502.2.1, hG.step hW hU hh_502.1, va_K.moved hW.alike hK2, jK5.moved hW.alike hK5, (hK7.step hW hU hh_502.1), hg_479, hg_484, hg_485, hg_486, (hh_502.2.2.1.sub (L1 := [(r0, 13, 4, .ref bo), (bo, 2, 1, .int pc), (bo, 2, 0, .ref pa), (r0, 13, 3, .ref ou)]) [7, 8, 9, 10] rfl), (hh_502.2.2.2.2.2.2.2.2.sub (L1 := [(jFy, jYb dC dI G_475), (jFs11, jSef dC dI G_475), (jFl, jLs dC dI ca G_475 3 none wl)]) [3, 2, 1] rfl), (by omega), (by omega), ⟨(by first | (with_reducible assumption) | omega | rfl | fail), (by first | (with_reducible assumption) | omega | rfl | fail), (by first | (with_reducible assumption) | omega | rfl | fail), (by first | (with_reducible assumption) | omega | rfl | fail), (by first | assumption | fail | omega)⟩⟩⟩ rfl rfl hl.1 rfl (lv_room (Nat.le_of_ble_eq_true rfl)) dX11_advance_157 ⟨by rw [hRc]; omega, by rw [hRs]; omega⟩) hh_502.1 (fun q _ h => h) (fun q h => h) (fun u_504 t_504 H_504 locs_504 ht_504 hvm_504 hr_505 hb_504 hz_504 hk_504 hS_504 => ?_)
              obtain ⟨qc_504, qa_504, m_qa_504, G_504⟩ := u_504
              rw [ht_504] at hb_504
              simp only at hb_504
              obtain ⟨⟨hb_5041, hb_5042, hb_5043, hb_5044, hb_5045, hb_5046⟩, hgq_504_0, hN_504, hbO_504, hbE_504⟩ := hb_504
              have hM_504 := hN_504
              have hN_504 : (jNk [0, 1, 2, 3, 4, 6, 7, 8, 9, 10, 12, 13, 14, 15, 16]) G_475 G_504 := hN_504.sub (by decide)
              have hh_504 : jSt (dC, dI) B base G0 G_504 EX11_advance s.heap ((0 + (1)) + ((m_qa_504 - n_pa) / 16)) ((0 + (40)) + (2 * (m_qa_504 - n_pa))) [(bo, 2, 1, .int qc_504), (bo, 2, 0, .ref qa_504), (el_8, 3, 11, .null), (el_8, 3, 10, .int qk_473), (r0, 13, 13, .int z_471), (el_8, 3, 4, .int ps_301), (el_8, 3, 5, .ref yb_301), (el_8, 3, 6, .ref ye_301), (r0, 13, 10, .ref hands_4), (r0, 13, 4, .ref bo), (r0, 13, 3, .ref ou)] [(yb_301, 171, 40, ca 1, fb_301), (ye_301, 172, 40, ca 1, fe_301)] [(jFdo, jDcc dC dI ca G_475 none phn_500)] H_504 locs_504 := (hh_502.callG hb_5041 hb_5042 hb_5043 hb_5044 hb_5045 hS_504 rfl (L1 := [(el_8, 3, 11, .null), (el_8, 3, 10, .int qk_473), (r0, 13, 13, .int z_471), (el_8, 3, 4, .int ps_301), (el_8, 3, 5, .ref yb_301), (el_8, 3, 6, .ref ye_301), (r0, 13, 10, .ref hands_4), (r0, 13, 4, .ref bo), (r0, 13, 3, .ref ou)]) [0, 1, 2, 3, 4, 5, 6, 7, 10] rfl rfl (M1 := [(yb_301, 171, 40, ca 1, fb_301), (ye_301, 172, 40, ca 1, fe_301)]) [0, 1] rfl rfl (I1 := [(jFdo, jDcc dC dI ca G_475 none phn_500)]) [0] rfl rfl).more hb_5046
              have hNn_504 : (jNk [0, 1, 2, 3, 4, 6, 7, 8, 9, 10, 12, 13, 14, 15, 16]) G0 G_504 := (hNn_475).tr hN_504
              have hg_506 := hb_5042 _ _ hg_477
              have hg_507 := hb_5042 _ _ hg_478
              have hg_508 := hb_5042 _ _ hg_479
              have hg_509 := hb_5042 _ _ hg_481
              have hg_510 := hb_5042 _ _ hg_482
              have hg_511 := hb_5042 _ _ hg_483
              have hg_512 := hb_5042 _ _ hg_484
              have hg_513 := hb_5042 _ _ hg_486
              have hd_514 := jDcc.grow (hh_504.iv 0 rfl) hb_5042 hN_504 (by decide)
              have hh_515 := hh_504.sub (L1 := [(bo, 2, 1, .int qc_504), (bo, 2, 0, .ref qa_504), (el_8, 3, 11, .null), (el_8, 3, 10, .int qk_473), (r0, 13, 13, .int z_471), (el_8, 3, 4, .int ps_301), (el_8, 3, 5, .ref yb_301), (el_8, 3, 6, .ref ye_301), (r0, 13, 10, .ref hands_4), (r0, 13, 4, .ref bo), (r0, 13, 3, .ref ou)]) [0, 1, 2, 3, 4, 5, 6, 7, 8, 9, 10] rfl (M1 := [(yb_301, 171, 40, ca 1, fb_301), (ye_301, 172, 40, ca 1, fe_301)]) [0, 1] rfl (I1 := []) [] rfl
              clear hh_504
              have hh_516 := hh_515.addI (jDcc.ie hd_514)
              clear hh_515
              have hh_517 := hh_516.addIs hbE_504
              have hd_518 := jOl.trL (hh_502.iv 4 rfl) hh_502.2.2.2.2.1 hbO_504 (by simp)
              have hh_519 := hh_517.addI (jOl.ie (dC := dC) (dI := dI) (G0 := G0) (k := 2) (rs := [bo, ou]) (H0 := s.heap) (F := [(2, 0), (2, 1)]) (C := RX0) (T := TX0) (N := 2) rfl (by decide) hh_517.2.2.2.2.1 (hd_518))
              clear hh_517
              try simp only at hr_505
              obtain ⟨hr_505_0, hr_505_1, hr_505_2, hr_505_3, hr_505_4⟩ := hr_505
              have hsz_520 := hh_519.2.2.2.2.2.1
              have htt_520 := hh_519.2.2.2.2.2.2.1
              refine W.room (fun hrc_520 hrs_520 => ?_)
              refine W.widen (k := LC - s.heap.size) (n := LS - jTot s.heap) (by omega) (by omega) ?_
              rw [hQ]
              exact W.vret hx hb hr (fun t ht hW => ⟨⟨(qc_504, qa_504, m_qa_504, phn_500, G_504), rfl, by (try dsimp only); exact ⟨(by first | (with_reducible assumption) | omega | rfl | fail), (by first | (with_reducible assumption) | omega | rfl | fail), (by first | (with_reducible assumption) | omega | rfl | fail), (by first | (with_reducible assumption) | omega | rfl | fail), (by first | assumption | fail | omega), (by first | (with_reducible assumption) | omega | rfl | fail)⟩, ⟨hh_519.ra (by first | (simp only; omega) | omega) (by first | (simp only; omega) | omega) (M1 := [(bo, 2, 1, .int qc_504), (bo, 2, 0, .ref qa_504)]) [0, 1] rfl ht, hgq_504_0, hNn_504, by rw [ht]; exact hh_519.iv 0 rfl, by rw [ht]; exact hh_519.2.2.2.2.2.2.2.2.sub (L1 := [(jFy, jYb dC dI G_504), (jFs11, jSef dC dI G_504), (jFl, jLs dC dI ca G_504 3 none wl), (jFdo, jDcc dC dI ca G_504 none phn_500)]) [1, 2, 3, 4] rfl⟩⟩, by rw [ht]; try exact hh_519.1.1, fun q h9 hq => by rw [ht]; try exact hh_519.1.2.1 q h9 hq⟩) hh_519.1.2.2 dX11_advance_160
            · skip
              have c_503' : qk_473.toInt = ps_301.toInt := jb_ne_n (rfl) (rfl) c_503
              first | (have hr_474q := hr_474.resolve_left (by omega); clear hr_474) | (have hr_474q := hr_474.resolve_right (by omega); clear hr_474) | skip
              refine lv_aload_n hx hb dX11_advance_150 rfl (lv_at hl 2 rfl) ?_
              refine lv_aload_n hx hb dX11_advance_151 rfl (lv_at hl 1 rfl) ?_
              refine lv_iconst (v := 1) hx hb dX11_advance_152 (by decide) ?_
              have hsz_521 := hh_502.2.2.2.2.2.1
              have htt_521 := hh_502.2.2.2.2.2.2.1
              refine W.room (fun hrc_521 hrs_521 => ?_)
              refine va_callv (A0 := jA base) (H0 := s.heap) (va_runV (As := [.ref el_8, .int 1]) (rest := []) ⟨hx, hb, hml, hown, hts⟩ (uX11_publish l dC dI ca base B hB hAp hB2 hB3 hB4 hB11 hB13 hB101 hB171 hB172 hB173 hB174 hB196 hB210 G_475 H_498 r0 el_8 1 bo pc pa n_pa ou LC LS) (cwV 2 hts (jgV (jWr_39 _ (List.mem_of_getElem? (i := 19) rfl)) (jWr_39 _ (List.mem_of_getElem? (i := 20) rfl)) (jWr_39 _ (List.mem_of_getElem? (i := 21) rfl)) (jWr_1 _ (List.mem_of_getElem? (i := 2) rfl)) (jWr_39 _ (List.mem_of_getElem? (i := 22) rfl))) rfl rfl rfl (by decide +kernel) ⟨by rw [← hR]; exact Nat.le_of_ble_eq_true rfl, by rw [← hR]; exact Nat.le_of_ble_eq_true rfl⟩) ⟨fun a U g mk q => by obtain ⟨q0, q1, q2, qK, q10, q11, q12, q13, q14, q15, q16, q17, q18, q19⟩ := q; exact ⟨q0, q1, q2, jG.calling g mk a qK, (va_K.moved (Vm.Alike.refl U.vm) q10), q11, q12, q13, q14, q15, q16, q17, q18, q19⟩, hh_502.recv (C := RX11) (T := TX11) (N := 19) hB13 rfl (by decide) hg_479 hK, fun U hU hW => ⟨rfl, hU, hh_502.2.1, hG.step hW hU hh_502.1, va_K.moved hW.alike hK2, hg_478, hg_479, (Or.inr rfl), hg_484, hg_485, hg_486, (hh_502.2.2.1.sub (L1 := [(r0, 13, 4, .ref bo), (bo, 2, 1, .int pc), (bo, 2, 0, .ref pa), (r0, 13, 3, .ref ou)]) [7, 8, 9, 10] rfl), (hh_502.2.2.2.2.2.2.2.2.sub (L1 := [(jFy, jYb dC dI G_475)]) [3] rfl), (by omega), (by omega), ⟨(by first | (with_reducible assumption) | omega | rfl | fail), (by first | (with_reducible assumption) | omega | rfl | fail), (by first | (with_reducible assumption) | omega | rfl | fail), (by first | (with_reducible assumption) | omega | rfl | fail), (by first | assumption | fail | omega)⟩⟩⟩ rfl rfl hl.1 rfl (lv_room (Nat.le_of_ble_eq_true rfl)) dX11_advance_153 ⟨by rw [hRc]; omega, by rw [hRs]; omega⟩) hh_502.1 (fun q _ h => h) (fun q h => h) (fun u_521 t_521 H_521 locs_521 ht_521 hvm_521 hr_522 hb_521 hz_521 hk_521 hS_521 => ?_)
              obtain ⟨qc_521, qa_521, m_qa_521, G_521⟩ := u_521
              rw [ht_521] at hb_521
              simp only at hb_521
              obtain ⟨⟨hb_5211, hb_5212, hb_5213, hb_5214, hb_5215, hb_5216⟩, hgq_521_0, hN_521, hbO_521, hbE_521⟩ := hb_521
              have hM_521 := hN_521
              have hN_521 : (jNk [0, 1, 2, 3, 4, 6, 7, 8, 9, 10, 12, 13, 14, 15, 16]) G_475 G_521 := hN_521.sub (by decide)
              have hh_521 : jSt (dC, dI) B base G0 G_521 EX11_advance s.heap ((0 + (1)) + ((m_qa_521 - n_pa) / 16)) ((0 + (40)) + (2 * (m_qa_521 - n_pa))) [(bo, 2, 1, .int qc_521), (bo, 2, 0, .ref qa_521), (el_8, 3, 11, .null), (el_8, 3, 10, .int qk_473), (r0, 13, 13, .int z_471), (el_8, 3, 4, .int ps_301), (el_8, 3, 5, .ref yb_301), (el_8, 3, 6, .ref ye_301), (r0, 13, 10, .ref hands_4), (r0, 13, 4, .ref bo), (r0, 13, 3, .ref ou)] [(yb_301, 171, 40, ca 1, fb_301), (ye_301, 172, 40, ca 1, fe_301)] [(jFdo, jDcc dC dI ca G_475 none phn_500), (jFl, jLs dC dI ca G_475 3 none wl), (jFs11, jSef dC dI G_475)] H_521 locs_521 := (hh_502.callG hb_5211 hb_5212 hb_5213 hb_5214 hb_5215 hS_521 rfl (L1 := [(el_8, 3, 11, .null), (el_8, 3, 10, .int qk_473), (r0, 13, 13, .int z_471), (el_8, 3, 4, .int ps_301), (el_8, 3, 5, .ref yb_301), (el_8, 3, 6, .ref ye_301), (r0, 13, 10, .ref hands_4), (r0, 13, 4, .ref bo), (r0, 13, 3, .ref ou)]) [0, 1, 2, 3, 4, 5, 6, 7, 10] rfl rfl (M1 := [(yb_301, 171, 40, ca 1, fb_301), (ye_301, 172, 40, ca 1, fe_301)]) [0, 1] rfl rfl (I1 := [(jFdo, jDcc dC dI ca G_475 none phn_500), (jFl, jLs dC dI ca G_475 3 none wl), (jFs11, jSef dC dI G_475)]) [0, 1, 2] rfl rfl).more hb_5216
              have hNn_521 : (jNk [0, 1, 2, 3, 4, 6, 7, 8, 9, 10, 12, 13, 14, 15, 16]) G0 G_521 := (hNn_475).tr hN_521
              have hg_523 := hb_5212 _ _ hg_477
              have hg_524 := hb_5212 _ _ hg_478
              have hg_525 := hb_5212 _ _ hg_479
              have hg_526 := hb_5212 _ _ hg_481
              have hg_527 := hb_5212 _ _ hg_482
              have hg_528 := hb_5212 _ _ hg_483
              have hg_529 := hb_5212 _ _ hg_484
              have hg_530 := hb_5212 _ _ hg_486
              have hd_531 := jDcc.grow (hh_521.iv 0 rfl) hb_5212 hN_521 (by decide)
              have hh_532 := hh_521.sub (L1 := [(bo, 2, 1, .int qc_521), (bo, 2, 0, .ref qa_521), (el_8, 3, 11, .null), (el_8, 3, 10, .int qk_473), (r0, 13, 13, .int z_471), (el_8, 3, 4, .int ps_301), (el_8, 3, 5, .ref yb_301), (el_8, 3, 6, .ref ye_301), (r0, 13, 10, .ref hands_4), (r0, 13, 4, .ref bo), (r0, 13, 3, .ref ou)]) [0, 1, 2, 3, 4, 5, 6, 7, 8, 9, 10] rfl (M1 := [(yb_301, 171, 40, ca 1, fb_301), (ye_301, 172, 40, ca 1, fe_301)]) [0, 1] rfl (I1 := [(jFl, jLs dC dI ca G_475 3 none wl), (jFs11, jSef dC dI G_475)]) [1, 2] rfl
              clear hh_521
              have hh_533 := hh_532.addI (jDcc.ie hd_531)
              clear hh_532
              have hd_534 := jLs.grow (hh_533.iv 1 rfl) hb_5212 hN_521 (by decide)
              have hh_535 := hh_533.sub (L1 := [(bo, 2, 1, .int qc_521), (bo, 2, 0, .ref qa_521), (el_8, 3, 11, .null), (el_8, 3, 10, .int qk_473), (r0, 13, 13, .int z_471), (el_8, 3, 4, .int ps_301), (el_8, 3, 5, .ref yb_301), (el_8, 3, 6, .ref ye_301), (r0, 13, 10, .ref hands_4), (r0, 13, 4, .ref bo), (r0, 13, 3, .ref ou)]) [0, 1, 2, 3, 4, 5, 6, 7, 8, 9, 10] rfl (M1 := [(yb_301, 171, 40, ca 1, fb_301), (ye_301, 172, 40, ca 1, fe_301)]) [0, 1] rfl (I1 := [(jFdo, jDcc dC dI ca G_521 none phn_500), (jFs11, jSef dC dI G_475)]) [0, 2] rfl
              clear hh_533
              have hh_536 := hh_535.addI (jLs.ie hd_534)
              clear hh_535
              have hd_537 := jSef.grow (hh_536.iv 2 rfl) hb_5212 hM_521 (by decide)
              have hh_538 := hh_536.sub (L1 := [(bo, 2, 1, .int qc_521), (bo, 2, 0, .ref qa_521), (el_8, 3, 11, .null), (el_8, 3, 10, .int qk_473), (r0, 13, 13, .int z_471), (el_8, 3, 4, .int ps_301), (el_8, 3, 5, .ref yb_301), (el_8, 3, 6, .ref ye_301), (r0, 13, 10, .ref hands_4), (r0, 13, 4, .ref bo), (r0, 13, 3, .ref ou)]) [0, 1, 2, 3, 4, 5, 6, 7, 8, 9, 10] rfl (M1 := [(yb_301, 171, 40, ca 1, fb_301), (ye_301, 172, 40, ca 1, fe_301)]) [0, 1] rfl (I1 := [(jFl, jLs dC dI ca G_521 3 none wl), (jFdo, jDcc dC dI ca G_521 none phn_500)]) [0, 1] rfl
              clear hh_536
              have hh_539 := hh_538.addI (jSef.ie hd_537)
              clear hh_538
              have hh_540 := hh_539.addIs hbE_521
              have hd_541 := jOl.trL (hh_502.iv 4 rfl) hh_502.2.2.2.2.1 hbO_521 (by simp)
              have hh_542 := hh_540.addI (jOl.ie (dC := dC) (dI := dI) (G0 := G0) (k := 2) (rs := [bo, ou]) (H0 := s.heap) (F := [(2, 0), (2, 1)]) (C := RX0) (T := TX0) (N := 2) rfl (by decide) hh_540.2.2.2.2.1 (hd_541))
              clear hh_540
              try simp only at hr_522
              obtain ⟨hr_522_0, hr_522_1, hr_522_2, hr_522_3, hr_522_4⟩ := hr_522
              refine lv_aload_n hx hb dX11_advance_156 rfl (lv_at hl 2 rfl) ?_
              have hsz_543 := hh_542.2.2.2.2.2.1
              have htt_543 := hh_542.2.2.2.2.2.2.1
              refine W.room (fun hrc_543 hrs_543 => ?_)
              refine va_callv (A0 := jA base) (H0 := s.heap) (va_runV (As := []) (rest := []) ⟨hx, hb, hml, hown, hts⟩ (uX11_answerReady l dC dI ca base B hB hAp hB1 hB2 hB3 hB4 hB5 hB7 hB8 hB9 hB10 hB11 hB13 hB101 hB102 hB132 hB196 hB210 hB214 hB222 hB280 hB286 hB287 hB288 hB313 G_521 H_521 r0 bo qc_521 qa_521 m_qa_521 ou wl LC LS) (cwV 0 hts (jgV (jWr_89 _ (List.mem_of_getElem? (i := 12) rfl)) (jWr_89 _ (List.mem_of_getElem? (i := 13) rfl)) (jWr_89 _ (List.mem_of_getElem? (i := 14) rfl)) (jWr_1 _ (List.mem_of_getElem? (i := 2) rfl)) (jWr_89 _ (List.mem_of_getElem? (i := 15) rfl))) rfl rfl rfl (by decide +kernel) ⟨by rw [← hR]; exact Nat.le_of_ble_eq_true rfl, by rw [← hR]; exact Nat.le_of_ble_eq_true rfl⟩) ⟨fun a U g mk q => by obtain ⟨q0, q1, q2, qK, q10, q11, q12, q13, q14, q15, q16, q17, q18, q19⟩ := q; exact ⟨q0, q1, q2, jG.calling g mk a qK, (va_K.moved (Vm.Alike.refl U.vm) q10), (jK5.moved (Vm.Alike.refl U.vm) q11), (jK7.calling g mk a q12), q13, q14, q15, q16, q17, q18, q19⟩, hh_542.recv (C := RX11) (T := TX11) (N := 19) hB13 rfl (by decide) hg_525 hK, fun U hU hW => ⟨rfl, hU, hh_542.2.1, hG.step hW hU hh_542.1, va_K.moved hW.alike hK2, jK5.moved hW.alike hK5, (hK7.step hW hU hh_542.1), hg_525, hg_529, hgq_521_0, hg_530, (hh_542.2.2.1.sub (L1 := [(r0, 13, 4, .ref bo), (bo, 2, 1, .int qc_521), (bo, 2, 0, .ref qa_521), (r0, 13, 3, .ref ou)]) [9, 0, 1, 10] rfl), (hh_542.2.2.2.2.2.2.2.2.sub (L1 := [(jFy, jYb dC dI G_521), (jFs11, jSef dC dI G_521), (jFl, jLs dC dI ca G_521 3 none wl)]) [1, 2, 3] rfl), (by omega), (by omega), ⟨(by first | (with_reducible assumption) | omega | rfl | fail), (by first | (with_reducible assumption) | omega | rfl | fail), (by first | (with_reducible assumption) | omega | rfl | fail), (by first | (with_reducible assumption) | omega | rfl | fail), (by first | assumption | fail | omega)⟩⟩⟩ rfl rfl hl.1 rfl (lv_room (Nat.le_of_ble_eq_true rfl)) dX11_advance_157 ⟨by rw [hRc]; omega, by rw [hRs]; omega⟩) hh_542.1 (fun q _ h => h) (fun q h => h) (fun u_543 t_543 H_543 locs_543 ht_543 hvm_543 hr_544 hb_543 hz_543 hk_543 hS_543 => ?_)
              obtain ⟨qc_543, qa_543, m_qa_543, G_543⟩ := u_543
              rw [ht_543] at hb_543
              simp only at hb_543
              obtain ⟨⟨hb_5431, hb_5432, hb_5433, hb_5434, hb_5435, hb_5436⟩, hgq_543_0, hN_543, hbO_543, hbE_543⟩ := hb_543
              have hM_543 := hN_543
              have hN_543 : (jNk [0, 1, 2, 3, 4, 6, 7, 8, 9, 10, 12, 13, 14, 15, 16]) G_521 G_543 := hN_543.sub (by decide)
              have hh_543 : jSt (dC, dI) B base G0 G_543 EX11_advance s.heap (((0 + (1)) + ((m_qa_521 - n_pa) / 16)) + ((m_qa_543 - m_qa_521) / 16)) (((0 + (40)) + (2 * (m_qa_521 - n_pa))) + (2 * (m_qa_543 - m_qa_521))) [(bo, 2, 1, .int qc_543), (bo, 2, 0, .ref qa_543), (el_8, 3, 11, .null), (el_8, 3, 10, .int qk_473), (r0, 13, 13, .int z_471), (el_8, 3, 4, .int ps_301), (el_8, 3, 5, .ref yb_301), (el_8, 3, 6, .ref ye_301), (r0, 13, 10, .ref hands_4), (r0, 13, 4, .ref bo), (r0, 13, 3, .ref ou)] [(yb_301, 171, 40, ca 1, fb_301), (ye_301, 172, 40, ca 1, fe_301)] [(jFdo, jDcc dC dI ca G_521 none phn_500)] H_543 locs_543 := (hh_542.callG hb_5431 hb_5432 hb_5433 hb_5434 hb_5435 hS_543 rfl (L1 := [(el_8, 3, 11, .null), (el_8, 3, 10, .int qk_473), (r0, 13, 13, .int z_471), (el_8, 3, 4, .int ps_301), (el_8, 3, 5, .ref yb_301), (el_8, 3, 6, .ref ye_301), (r0, 13, 10, .ref hands_4), (r0, 13, 4, .ref bo), (r0, 13, 3, .ref ou)]) [2, 3, 4, 5, 6, 7, 8, 9, 10] rfl rfl (M1 := [(yb_301, 171, 40, ca 1, fb_301), (ye_301, 172, 40, ca 1, fe_301)]) [0, 1] rfl rfl (I1 := [(jFdo, jDcc dC dI ca G_521 none phn_500)]) [4] rfl rfl).more hb_5436
              have hNn_543 : (jNk [0, 1, 2, 3, 4, 6, 7, 8, 9, 10, 12, 13, 14, 15, 16]) G0 G_543 := (hNn_521).tr hN_543
              have hg_545 := hb_5432 _ _ hg_523
              have hg_546 := hb_5432 _ _ hg_524
              have hg_547 := hb_5432 _ _ hg_525
              have hg_548 := hb_5432 _ _ hg_526
              have hg_549 := hb_5432 _ _ hg_527
              have hg_550 := hb_5432 _ _ hg_528
              have hg_551 := hb_5432 _ _ hg_529
              have hg_552 := hb_5432 _ _ hg_530
              have hd_553 := jDcc.grow (hh_543.iv 0 rfl) hb_5432 hN_543 (by decide)
              have hh_554 := hh_543.sub (L1 := [(bo, 2, 1, .int qc_543), (bo, 2, 0, .ref qa_543), (el_8, 3, 11, .null), (el_8, 3, 10, .int qk_473), (r0, 13, 13, .int z_471), (el_8, 3, 4, .int ps_301), (el_8, 3, 5, .ref yb_301), (el_8, 3, 6, .ref ye_301), (r0, 13, 10, .ref hands_4), (r0, 13, 4, .ref bo), (r0, 13, 3, .ref ou)]) [0, 1, 2, 3, 4, 5, 6, 7, 8, 9, 10] rfl (M1 := [(yb_301, 171, 40, ca 1, fb_301), (ye_301, 172, 40, ca 1, fe_301)]) [0, 1] rfl (I1 := []) [] rfl
              clear hh_543
              have hh_555 := hh_554.addI (jDcc.ie hd_553)
              clear hh_554
              have hh_556 := hh_555.addIs hbE_543
              have hd_557 := jOl.trL (hh_542.iv 0 rfl) hh_542.2.2.2.2.1 hbO_543 (by simp)
              have hh_558 := hh_556.addI (jOl.ie (dC := dC) (dI := dI) (G0 := G0) (k := 2) (rs := [bo, ou]) (H0 := s.heap) (F := [(2, 0), (2, 1)]) (C := RX0) (T := TX0) (N := 2) rfl (by decide) hh_556.2.2.2.2.1 (hd_557))
              clear hh_556
              try simp only at hr_544
              obtain ⟨hr_544_0, hr_544_1, hr_544_2, hr_544_3, hr_544_4⟩ := hr_544
              have hsz_559 := hh_558.2.2.2.2.2.1
              have htt_559 := hh_558.2.2.2.2.2.2.1
              refine W.room (fun hrc_559 hrs_559 => ?_)
              refine W.widen (k := LC - s.heap.size) (n := LS - jTot s.heap) (by omega) (by omega) ?_
              rw [hQ]
              exact W.vret hx hb hr (fun t ht hW => ⟨⟨(qc_543, qa_543, m_qa_543, phn_500, G_543), rfl, by (try dsimp only); exact ⟨(by first | (with_reducible assumption) | omega | rfl | fail), (by first | (with_reducible assumption) | omega | rfl | fail), (by first | (with_reducible assumption) | omega | rfl | fail), (by first | (with_reducible assumption) | omega | rfl | fail), (by first | assumption | fail | omega), (by first | (with_reducible assumption) | omega | rfl | fail)⟩, ⟨hh_558.ra (by first | (simp only; omega) | omega) (by first | (simp only; omega) | omega) (M1 := [(bo, 2, 1, .int qc_543), (bo, 2, 0, .ref qa_543)]) [0, 1] rfl ht, hgq_543_0, hNn_543, by rw [ht]; exact hh_558.iv 0 rfl, by rw [ht]; exact hh_558.2.2.2.2.2.2.2.2.sub (L1 := [(jFy, jYb dC dI G_543), (jFs11, jSef dC dI G_543), (jFl, jLs dC dI ca G_543 3 none wl), (jFdo, jDcc dC dI ca G_543 none phn_500)]) [1, 2, 3, 4] rfl⟩⟩, by rw [ht]; try exact hh_558.1.1, fun q h9 hq => by rw [ht]; try exact hh_558.1.2.1 q h9 hq⟩) hh_558.1.2.2 dX11_advance_160
set_option maxHeartbeats 4000000 in
set_option maxRecDepth 20000 in
theorem uX11_work (l : Launch) (dC : Nat → ClassId) (dI : Nat → Nat → Nat) (ca : Nat → ClassId) (base : Nat) (B : jF) (hB : jBok B) (hAp : jAp (dC, dI)) (hB1 : ∀ n G a H, B 1 n G a H ↔ jOb (dC, dI) 1 3 (F1 n G) a H) (hB2 : ∀ n G a H, B 2 n G a H ↔ jOb (dC, dI) 2 2 (F2 n G) a H) (hB3 : ∀ n G a H, B 3 n G a H ↔ jOb (dC, dI) 3 17 (F3 n G) a H) (hB4 : ∀ n G a H, B 4 n G a H ↔ jOb (dC, dI) 4 12 (F4 n G) a H) (hB5 : ∀ n G a H, B 5 n G a H ↔ jOb (dC, dI) 5 4 (F5 n G) a H) (hB7 : ∀ n G a H, B 7 n G a H ↔ jOb (dC, dI) 7 11 (F7 n G) a H) (hB8 : ∀ n G a H, B 8 n G a H ↔ jOb (dC, dI) 8 4 (F8 n G) a H) (hB9 : ∀ n G a H, B 9 n G a H ↔ jOb (dC, dI) 9 5 (F9b n G) a H) (hB10 : ∀ n G a H, B 10 n G a H ↔ jOb (dC, dI) 10 5 (F10 n G) a H) (hB11 : ∀ n G a H, B 11 n G a H ↔ jOb (dC, dI) 11 9 (F11 n G) a H) (hB12 : ∀ n G a H, B 12 n G a H ↔ jOb (dC, dI) 12 11 (F12b n G) a H) (hB13 : ∀ n G a H, B 13 n G a H ↔ jOb (dC, dI) 13 19 (F13 n G) a H) (hB101 : ∀ n G a H, B 101 n G a H ↔ jAr (dC, dI) (ca 1) (fun j z => True) n a H) (hB102 : ∀ n G a H, B 102 n G a H ↔ jAl (dC, dI) (ca 2) n a H) (hB132 : ∀ n G a H, B 132 n G a H ↔ jAr (dC, dI) (ca 1) (fun j z => 0 ≤ z.toInt ∧ z.toInt ≤ 10) n a H) (hB133 : ∀ n G a H, B 133 n G a H ↔ jAr (dC, dI) (ca 1) (fun j z => 0 ≤ z.toInt ∧ z.toInt ≤ 8192) n a H) (hB171 : ∀ n G a H, B 171 n G a H ↔ jAr (dC, dI) (ca 1) (fun j z => 0 ≤ z.toInt ∧ z.toInt ≤ 1500) n a H) (hB172 : ∀ n G a H, B 172 n G a H ↔ jAr (dC, dI) (ca 1) (fun j z => 0 ≤ z.toInt ∧ z.toInt ≤ 1500) n a H) (hB173 : ∀ n G a H, B 173 n G a H ↔ jAr (dC, dI) (ca 1) (fun j z => True) n a H) (hB174 : ∀ n G a H, B 174 n G a H ↔ jAr (dC, dI) (ca 1) (fun j z => True) n a H) (hB196 : ∀ n G a H, B 196 n G a H ↔ jAr (dC, dI) (ca 0) (fun j z => jBf j z) n a H) (hB210 : ∀ n G a H, B 210 n G a H ↔ jAq (dC, dI) (ca 6) (jQn 11 0) n G a H) (hB211 : ∀ n G a H, B 211 n G a H ↔ jAq (dC, dI) (ca 7) (jQh) n G a H) (hB212 : ∀ n G a H, B 212 n G a H ↔ jAq (dC, dI) (ca 5) (jQn 3 0) n G a H) (hB214 : ∀ n G a H, B 214 n G a H ↔ jAq (dC, dI) (ca 7) (jQg) n G a H) (hB221 : ∀ n G a H, B 221 n G a H ↔ jAq (dC, dI) (ca 9) (jQn 3 0) n G a H) (hB222 : ∀ n G a H, B 222 n G a H ↔ jAq (dC, dI) (ca 9) (jQn 10 0) n G a H) (hB223 : ∀ n G a H, B 223 n G a H ↔ jAq (dC, dI) (ca 9) (jQn 11 0) n G a H) (hB280 : ∀ n G a H, B 280 n G a H ↔ jAr (dC, dI) (ca 1) (fun j z => -1 ≤ z.toInt) n a H) (hB286 : ∀ n G a H, B 286 n G a H ↔ jAr (dC, dI) (ca 1) (fun j z => (0 ≤ z.toInt ∨ z.toInt = -3)) n a H) (hB287 : ∀ n G a H, B 287 n G a H ↔ jAr (dC, dI) (ca 1) (fun j z => 0 ≤ z.toInt ∧ z.toInt ≤ 65535) n a H) (hB288 : ∀ n G a H, B 288 n G a H ↔ jAr (dC, dI) (ca 1) (fun j z => 0 ≤ z.toInt ∧ z.toInt ≤ 160) n a H) (hB290 : ∀ n G a H, B 290 n G a H ↔ jAr (dC, dI) (ca 1) (fun j z => 0 ≤ z.toInt ∧ z.toInt ≤ 3000) n a H) (hB291 : ∀ n G a H, B 291 n G a H ↔ jAr (dC, dI) (ca 1) (fun j z => 0 ≤ z.toInt ∧ z.toInt ≤ 3000) n a H) (hB292 : ∀ n G a H, B 292 n G a H ↔ jAr (dC, dI) (ca 1) (fun j z => 0 ≤ z.toInt ∧ z.toInt ≤ 8191) n a H) (hB293 : ∀ n G a H, B 293 n G a H ↔ jAr (dC, dI) (ca 1) (fun j z => -1 ≤ z.toInt ∧ z.toInt ≤ 8191) n a H) (hB313 : ∀ n G a H, B 313 n G a H ↔ jAq (dC, dI) (ca 8) (jQk 280 80) n G a H) (hB315 : ∀ n G a H, B 315 n G a H ↔ jAqZ (dC, dI) (ca 8) n a H) (G0 : jT) (H0 : Heap) (r0 : Nat) (a1 : Int32) (bo : Nat) (pc : Int32) (pa : Nat) (n_pa : Nat) (ou : Nat) (ph : Nat) (wl : jWl9) (LC LS : Nat) : Met l yX11_work (jw yX11_work cX11_work 4 (some .int)) ({ frames := 72, cells := LC - H0.size, slots := LS - jTot H0, locals := 2306 }) (va_Pc [.ref r0, .int a1] (fun U => U.heap = H0 ∧ jX B base G0 [] H0 ∧ jG dC dI ca base U ∧ jK2 dC dI ca U ∧ jK5 dC dI ca U ∧ jK6 U ∧ jK7 dC dI ca base U ∧ jK8 U ∧ G0 r0 = some (13, 0) ∧ G0 bo = some (2, 0) ∧ G0 pa = some (196, n_pa) ∧ G0 ou = some (2, 20000) ∧ jP (dC, dI) G0 H0 [(r0, 13, 4, .ref bo), (bo, 2, 1, .int pc), (bo, 2, 0, .ref pa), (r0, 13, 3, .ref ou)] ∧ jIs (dC, dI) G0 H0 [(jFy, jYb dC dI G0), (jFs11, jSef dC dI G0), (jFl, jLs dC dI ca G0 3 none wl), (jFdo, jDcc dC dI ca G0 none ph)] ∧ H0.size + (1048576 - n_pa) / 16 + 40 + ph / 16 ≤ LC ∧ jTot H0 + 2 * (1048576 - n_pa) + 100 + ph ≤ LS ∧ 0 ≤ pc.toInt ∧ pc.toInt ≤ n_pa ∧ 16 ≤ n_pa ∧ n_pa ≤ 1048576 ∧ jPw n_pa)) (va_Qi (S := Int32 × Nat × Nat × Nat × jT) (fun r u => (0 ≤ u.1.toInt ∧ u.1.toInt ≤ u.2.2.1 ∧ n_pa ≤ u.2.2.1 ∧ u.2.2.1 ≤ 1048576 ∧ jPw u.2.2.1 ∧ u.2.2.2.1 ≤ ph)) (fun u t => jRa (dC, dI) B base G0 u.2.2.2.2 EX11_work H0 ((u.2.2.1 - n_pa) / 16 + (ph - u.2.2.2.1) / 16) (2 * (u.2.2.1 - n_pa) + (ph - u.2.2.2.1)) [(bo, 2, 1, .int u.1), (bo, 2, 0, .ref u.2.1)] t.heap ∧ u.2.2.2.2 u.2.1 = some (196, u.2.2.1) ∧ (jNk [0, 1, 2, 3, 4, 6, 7, 8, 9, 10, 12, 13, 14, 15, 16]) G0 u.2.2.2.2 ∧ jOl (dC, dI) G0 2 [bo, ou] H0 t.heap ∧ jIs (dC, dI) u.2.2.2.2 t.heap [(jFy, jYb dC dI u.2.2.2.2), (jFs11, jSef dC dI u.2.2.2.2), (jFl, jLs dC dI ca u.2.2.2.2 3 none wl), (jFdo, jDcc dC dI ca u.2.2.2.2 none (u.2.2.2.1))]) (jA base)) (LC - H0.size) (LS - jTot H0) (jA base) := by
  refine Met.ofW (cc := cX11_work) (maxL := 4) (ret := (some .int)) (by decide) rfl ?_
  intro p e s m args below meth c s₁ Bd hml hv
  obtain ⟨rfl, hH0, hX, hG, hK2, hK5, hK6, hK7, hK8, hg_r0, hg_bo, hg_pa, hg_ou, hP0, hI0, hLC0, hLS0, hp0, hp1, hp2, hp3, hp4⟩ := hv
  have hK := hG.1
  have hx := Bd.exec
  have hb := Bd.bytes
  have hr := Bd.returns
  have hts := atoms_spec (ws := (jw yX11_work cX11_work 4 (some .int))) Bd.pre
  have htw : ∀ w ∈ jWl, w.before _ s = true := fun w h => hts w (List.mem_cons_of_mem _ h)
  have hown : s.vm.findClass RX11 = some m.cls := findClass_of_methodNamed Bd.named
  have hlocks := Bd.notSynchronized
  obtain ⟨Q, hQ⟩ : ∃ Q, Q = MQ below (va_Qi (S := Int32 × Nat × Nat × Nat × jT) (fun r u => (0 ≤ u.1.toInt ∧ u.1.toInt ≤ u.2.2.1 ∧ n_pa ≤ u.2.2.1 ∧ u.2.2.1 ≤ 1048576 ∧ jPw u.2.2.1 ∧ u.2.2.2.1 ≤ ph)) (fun u t => jRa (dC, dI) B base G0 u.2.2.2.2 EX11_work H0 ((u.2.2.1 - n_pa) / 16 + (ph - u.2.2.2.1) / 16) (2 * (u.2.2.1 - n_pa) + (ph - u.2.2.2.1)) [(bo, 2, 1, .int u.1), (bo, 2, 0, .ref u.2.1)] t.heap ∧ u.2.2.2.2 u.2.1 = some (196, u.2.2.1) ∧ (jNk [0, 1, 2, 3, 4, 6, 7, 8, 9, 10, 12, 13, 14, 15, 16]) G0 u.2.2.2.2 ∧ jOl (dC, dI) G0 2 [bo, ou] H0 t.heap ∧ jIs (dC, dI) u.2.2.2.2 t.heap [(jFy, jYb dC dI u.2.2.2.2), (jFs11, jSef dC dI u.2.2.2.2), (jFl, jLs dC dI ca u.2.2.2.2 3 none wl), (jFdo, jDcc dC dI ca u.2.2.2.2 none (u.2.2.2.1))]) (jA base)) ([.ref r0, .int a1] : List Value).toArray s (LC - H0.size) (LS - jTot H0) (jA base) := ⟨_, rfl⟩
  rw [← hQ]
  have hl := lv_entry ([.ref r0, .int a1]) (n := 4) (Nat.le_of_ble_eq_true rfl)
  rw [lg_entry_eq]
  generalize (lg_sl ([.ref r0, .int a1]) ++ List.replicate (4 - (lg_sl ([.ref r0, .int a1])).length) Slot.unset).toArray = ls at hl ⊢
  have hl : lv_has ls 4 [(0, .ref r0), (1, .int a1)] := hl
  generalize hR : (headSpec (jw yX11_work cX11_work 4 (some .int)) ({ frames := 72, cells := LC - H0.size, slots := LS - jTot H0, locals := 2306 })).room = R
  subst hH0
  have hh : jSt (dC, dI) B base G0 G0 EX11_work s.heap 0 0 [(r0, 13, 4, .ref bo), (bo, 2, 1, .int pc), (bo, 2, 0, .ref pa), (r0, 13, 3, .ref ou)] [] [(jFy, jYb dC dI G0), (jFs11, jSef dC dI G0), (jFl, jLs dC dI ca G0 3 none wl), (jFdo, jDcc dC dI ca G0 none ph)] s.heap [] := jSt.start hX hP0 jMc.nil hI0
  clear hX hP0
  have hkm1 : ((-1) : Int32).toInt = (-1) := by decide
  have hk0 : (0 : Int32).toInt = 0 := by decide
  have hk1 : (1 : Int32).toInt = 1 := by decide
  have hk2 : (2 : Int32).toInt = 2 := by decide
  have hk10000 : (10000 : Int32).toInt = 10000 := by decide
  have hly_13_12 := htw (u_lay RX11 TX11 12) (jWc_wsX110 _ (u_in_lay (by decide)))
  have hlk_133 := (htw (.fieldLink RX11 133 "ProofServer" "steps" "I") (jWr_76 _ (List.mem_of_getElem? (i := 14) rfl)))
  have hrg_a1 := jb_rng a1
  have hbs : base ≤ s.heap.size := Nat.le_of_lt (Nat.lt_of_le_of_lt (hh.ab hg_r0).1 (hh.ab hg_r0).2)
  have hRc : R.cells = LC - s.heap.size := by rw [← hR]; rfl
  have hRs : R.slots = LS - jTot s.heap := by rw [← hR]; rfl
  have hh_1 := hh.addI (jOl.ie (dC := dC) (dI := dI) (G0 := G0) (k := 2) (rs := [bo, ou]) (H0 := s.heap) (F := [(2, 0), (2, 1)]) (C := RX0) (T := TX0) (N := 2) rfl (by decide) hh.2.2.2.2.1 (jOl.rf))
  clear hh
  refine lv_iload_n hx hb dX11_work_0 rfl (lv_at hl 1 rfl) ?_
  refine lv_if_lt (tgt := 11) hx hb dX11_work_1 (by decide) (fun c_2 => ?_) (fun c_2 => ?_)
  · skip
    have c_2' : a1.toInt < 0 := jb_lt (rfl) ((by decide)) c_2
    refine lv_iconst (v := (-1)) hx hb dX11_work_11 (by decide) ?_
    have hsz_3 := hh_1.2.2.2.2.2.1
    have htt_3 := hh_1.2.2.2.2.2.2.1
    refine W.room (fun hrc_3 hrs_3 => ?_)
    refine W.widen (k := LC - s.heap.size) (n := LS - jTot s.heap) (by omega) (by omega) ?_
    rw [hQ]
    exact W.iret (v := (-1)) hx hb hr (fun t ht hW => ⟨⟨(-1), (pc, pa, n_pa, ph, G0), rfl, by (try dsimp only); exact ⟨(by first | (with_reducible assumption) | omega | rfl | fail), (by first | (with_reducible assumption) | omega | rfl | fail), (by first | (with_reducible assumption) | omega | rfl | fail), (by first | (with_reducible assumption) | omega | rfl | fail), (by first | assumption | fail | omega), (by first | (with_reducible assumption) | omega | rfl | fail)⟩, ⟨hh_1.ra (by first | (simp only; omega) | omega) (by first | (simp only; omega) | omega) (M1 := [(bo, 2, 1, .int pc), (bo, 2, 0, .ref pa)]) [1, 2] rfl ht, hg_pa, jNk.rf, by rw [ht]; exact hh_1.iv 0 rfl, by rw [ht]; exact hh_1.2.2.2.2.2.2.2.2.sub (L1 := [(jFy, jYb dC dI G0), (jFs11, jSef dC dI G0), (jFl, jLs dC dI ca G0 3 none wl), (jFdo, jDcc dC dI ca G0 none ph)]) [1, 2, 3, 4] rfl⟩⟩, by rw [ht]; try exact hh_1.1.1, fun q h9 hq => by rw [ht]; try exact hh_1.1.2.1 q h9 hq⟩) hh_1.1.2.2 dX11_work_12
  · skip
    have c_2' : a1.toInt ≥ 0 := jb_lt_n (rfl) ((by decide)) c_2
    refine lv_iload_n hx hb dX11_work_4 rfl (lv_at hl 1 rfl) ?_
    refine lv_sipush (v := 10000) hx hb dX11_work_5 (by decide) ?_
    refine lv_icmp_le (tgt := 13) hx hb dX11_work_8 (by decide) (fun c_4 => ?_) (fun c_4 => ?_)
    · skip
      have c_4' : a1.toInt ≤ 10000 := jb_le (rfl) ((by decide)) c_4
      refine lv_iconst (v := 0) hx hb dX11_work_13 (by decide) ?_
      refine lv_istore_n (lv' := [(2, .int 0), (0, .ref r0), (1, .int a1)]) hx hb dX11_work_14 rfl hl (by decide) rfl (fun ls hl => ?_)
      have L15 : ∀ (N : Nat) (Gx_5 : jT) (zcx_5 : Nat) (zsx_5 : Nat) (v2_5 : Int32) (wc_5 : Int32) (wr_5 : Nat) (m_wr_5 : Nat) (ph_5 : Nat) (H_5 : Heap) (locs_5 : List Loc), jSt (dC, dI) B base G0 Gx_5 EX11_work s.heap zcx_5 zsx_5 [(bo, 2, 1, .int wc_5), (bo, 2, 0, .ref wr_5), (r0, 13, 4, .ref bo), (r0, 13, 3, .ref ou)] [] [([(2, 0), (2, 1)], jOl (dC, dI) G0 2 [bo, ou] s.heap), (jFy, jYb dC dI Gx_5), (jFs11, jSef dC dI Gx_5), (jFl, jLs dC dI ca Gx_5 3 none wl), (jFdo, jDcc dC dI ca Gx_5 none ph_5)] H_5 locs_5 → (jNk [0, 1, 2, 3, 4, 6, 7, 8, 9, 10, 12, 13, 14, 15, 16]) G0 Gx_5 → jLe G0 Gx_5 → Gx_5 wr_5 = some (196, m_wr_5) → (0 ≤ wc_5.toInt ∧ wc_5.toInt ≤ m_wr_5 ∧ n_pa ≤ m_wr_5 ∧ m_wr_5 ≤ 1048576 ∧ jPw m_wr_5 ∧ ph_5 ≤ ph ∧ zcx_5 ≤ (m_wr_5 - n_pa) / 16 + (ph - ph_5) / 16 ∧ zsx_5 ≤ 2 * (m_wr_5 - n_pa) + (ph - ph_5) ∧ 0 ≤ v2_5.toInt ∧ v2_5.toInt ≤ a1.toInt) → (a1.toInt - v2_5.toInt : Int) < N → ∀ ls : Array Slot, lv_has ls 4 [(0, .ref r0), (1, .int a1), (2, .int v2_5)] → W p l e R s m ([.ref r0, .int a1] : List Value).toArray below meth c H_5 locs_5 zcx_5 zsx_5 Q (F0 m 15 ls []) := by
        intro N
        induction N with
        | zero => intro Gx_5 zcx_5 zsx_5 v2_5 wc_5 wr_5 m_wr_5 ph_5 H_5 locs_5 hh_5 hN_5 hle_5 hg_wr_5 hi_5 hm; exact absurd hm (by omega)
        | succ N L15 =>
          intro Gx_5 zcx_5 zsx_5 v2_5 wc_5 wr_5 m_wr_5 ph_5 H_5 locs_5 hh_5 hN_5 hle_5 hg_wr_5 hi_5 hm_5 ls hl
          have hg_6 := hle_5 _ _ hg_r0
          have hg_7 := hle_5 _ _ hg_bo
          have hg_8 := hle_5 _ _ hg_ou
          obtain ⟨hi_5_0, hi_5_1, hi_5_2, hi_5_3, hi_5_4, hi_5_5, hi_5_6, hi_5_7, hi_5_8, hi_5_9⟩ := hi_5
          refine lv_iload_n hx hb dX11_work_15 rfl (lv_at hl 2 rfl) ?_
          refine lv_iload_n hx hb dX11_work_16 rfl (lv_at hl 1 rfl) ?_
          refine lv_icmp_ge (tgt := 51) hx hb dX11_work_17 (by decide) (fun c_9 => ?_) (fun c_9 => ?_)
          · skip
            have c_9' : v2_5.toInt ≥ a1.toInt := jb_ge (rfl) (rfl) c_9
            refine lv_aload_n hx hb dX11_work_51 rfl (lv_at hl 0 rfl) ?_
            refine lv_dup hx hb dX11_work_52 rfl ?_
            obtain ⟨v_10, hv_10, hh_11⟩ := hh_5.pin (C := RX11) (T := TX11) (N := 19) hB13 rfl (by decide) hg_6 (i := 12) (by decide) rfl
            clear hh_5
            obtain ⟨steps_12, rfl⟩ := hv_10
            refine j7_read hx hb hown hK (C := RX11) (T := TX11) (N := 19) rfl hly_13_12 hlk_133 (hh_11.at 0 rfl) dX11_work_53 ?_
            refine lv_iload_n hx hb dX11_work_56 rfl (lv_at hl 2 rfl) ?_
            refine lv_iadd hx hb dX11_work_57 ?_
            refine lv_topi (fun z_13 ez_13 => ?_)
            refine j7_put hx hb hown hK hh_11 hB hAp hB13 (C := RX11) (T := TX11) (N := 19) rfl (by decide) hg_6 (i := 12) (by decide) hly_13_12 rfl hlk_133 rfl (ty := .int) (v := .int z_13) (by decide +kernel) rfl rfl (⟨_, rfl⟩) rfl (L1 := [(bo, 2, 1, .int wc_5), (bo, 2, 0, .ref wr_5), (r0, 13, 4, .ref bo), (r0, 13, 3, .ref ou)]) [1, 2, 3, 4] rfl rfl rfl dX11_work_58 (fun H_14 locs_14 hh_14 => ?_)
            clear hh_11
            refine lv_iload_n hx hb dX11_work_61 rfl (lv_at hl 2 rfl) ?_
            have hsz_15 := hh_14.2.2.2.2.2.1
            have htt_15 := hh_14.2.2.2.2.2.2.1
            refine W.room (fun hrc_15 hrs_15 => ?_)
            refine W.widen (k := LC - s.heap.size) (n := LS - jTot s.heap) (by omega) (by omega) ?_
            rw [hQ]
            exact W.iret (v := v2_5) hx hb hr (fun t ht hW => ⟨⟨v2_5, (wc_5, wr_5, m_wr_5, ph_5, Gx_5), rfl, by (try dsimp only); exact ⟨(by first | (with_reducible assumption) | omega | rfl | fail), (by first | (with_reducible assumption) | omega | rfl | fail), (by first | (with_reducible assumption) | omega | rfl | fail), (by first | (with_reducible assumption) | omega | rfl | fail), (by first | assumption | fail | omega), (by first | (with_reducible assumption) | omega | rfl | fail)⟩, ⟨hh_14.ra (by first | (simp only; omega) | omega) (by first | (simp only; omega) | omega) (M1 := [(bo, 2, 1, .int wc_5), (bo, 2, 0, .ref wr_5)]) [1, 2] rfl ht, hg_wr_5, hN_5, by rw [ht]; exact hh_14.iv 0 rfl, by rw [ht]; exact hh_14.2.2.2.2.2.2.2.2.sub (L1 := [(jFy, jYb dC dI Gx_5), (jFs11, jSef dC dI Gx_5), (jFl, jLs dC dI ca Gx_5 3 none wl), (jFdo, jDcc dC dI ca Gx_5 none ph_5)]) [1, 2, 3, 4] rfl⟩⟩, by rw [ht]; try exact hh_14.1.1, fun q h9 hq => by rw [ht]; try exact hh_14.1.2.1 q h9 hq⟩) hh_14.1.2.2 dX11_work_62
          · skip
            have c_9' : v2_5.toInt < a1.toInt := jb_ge_n (rfl) (rfl) c_9
            refine lv_aload_n hx hb dX11_work_20 rfl (lv_at hl 0 rfl) ?_
            have hsz_16 := hh_5.2.2.2.2.2.1
            have htt_16 := hh_5.2.2.2.2.2.2.1
            refine W.room (fun hrc_16 hrs_16 => ?_)
            refine va_calli (A0 := jA base) (H0 := s.heap) (va_runV (As := []) (rest := []) ⟨hx, hb, hml, hown, hts⟩ (uX11_hasWork l dC dI ca base B hB hAp hB1 hB3 hB10 hB13 hB101 hB212 hB221 hB222 Gx_5 H_5 r0 wl) (cwV 0 hts (jgV (jWr_76 _ (List.mem_of_getElem? (i := 15) rfl)) (jWr_76 _ (List.mem_of_getElem? (i := 16) rfl)) (jWr_76 _ (List.mem_of_getElem? (i := 17) rfl)) (jWr_1 _ (List.mem_of_getElem? (i := 2) rfl)) (jWr_76 _ (List.mem_of_getElem? (i := 18) rfl))) rfl rfl rfl (by decide +kernel) ⟨by rw [← hR]; exact Nat.le_of_ble_eq_true rfl, by rw [← hR]; exact Nat.le_of_ble_eq_true rfl⟩) ⟨fun a U g mk q => by obtain ⟨q0, q1, q2, qK, q10, q11, q12, q13, q14, q15⟩ := q; exact ⟨q0, q1, q2, jG.calling g mk a qK, (va_K.moved (Vm.Alike.refl U.vm) q10), (jK7.calling g mk a q11), q12, q13, q14, q15⟩, hh_5.recv (C := RX11) (T := TX11) (N := 19) hB13 rfl (by decide) hg_6 hK, fun U hU hW => ⟨rfl, hU, hh_5.2.1, hG.step hW hU hh_5.1, va_K.moved hW.alike hK2, (hK7.step hW hU hh_5.1), hg_6, jP.nil, (hh_5.2.2.2.2.2.2.2.2.sub (L1 := [(jFl, jLs dC dI ca Gx_5 3 none wl)]) [3] rfl), trivial⟩⟩ rfl rfl hl.1 rfl (lv_room (Nat.le_of_ble_eq_true rfl)) dX11_work_21 ⟨by rw [hRc]; show _ + 0 ≤ _; omega, by rw [hRs]; show _ + 0 ≤ _; omega⟩) hh_5.1 (fun q _ h => h) (fun q h => h) (fun r_17 u_16 t_16 H_16 locs_16 ht_16 hvm_16 hr_17 hb_16 hz_16 hk_16 hS_16 => ?_)
            rw [ht_16] at hb_16
            obtain ⟨hb_16, hbE_16⟩ := hb_16
            obtain ⟨hb_161, hb_162, hb_163, hb_164, hb_165⟩ := hb_16
            have hh_16 : jSt (dC, dI) B base G0 Gx_5 EX11_work s.heap zcx_5 zsx_5 [(bo, 2, 1, .int wc_5), (bo, 2, 0, .ref wr_5), (r0, 13, 4, .ref bo), (r0, 13, 3, .ref ou)] [] [(jFl, jLs dC dI ca Gx_5 3 none wl), ([(2, 0), (2, 1)], jOl (dC, dI) G0 2 [bo, ou] s.heap), (jFy, jYb dC dI Gx_5), (jFs11, jSef dC dI Gx_5), (jFdo, jDcc dC dI ca Gx_5 none ph_5)] H_16 locs_16 := (((hh_5.call hb_161 hb_162 hb_163 hb_164 hS_16 rfl (L1 := [(bo, 2, 1, .int wc_5), (bo, 2, 0, .ref wr_5), (r0, 13, 4, .ref bo), (r0, 13, 3, .ref ou)]) [0, 1, 2, 3] rfl rfl (M1 := []) [] rfl rfl (I1 := [([(2, 0), (2, 1)], jOl (dC, dI) G0 2 [bo, ou] s.heap), (jFy, jYb dC dI Gx_5), (jFs11, jSef dC dI Gx_5), (jFdo, jDcc dC dI ca Gx_5 none ph_5)]) [0, 1, 2, 4] rfl rfl).more hb_165)).addIs hbE_16
            clear hh_5 ht_16 hvm_16 hz_16 hk_16 hS_16 hb_161 hb_162 hb_163 hb_164 hb_165
            clear  hbE_16
            obtain ⟨hr_17b, hr_17p⟩ := hr_17
            have hr_17' := jb_01 hr_17b
            refine lv_if_eq (tgt := 51) hx hb dX11_work_24 (by decide) (fun c_18 => ?_) (fun c_18 => ?_)
            · skip
              have c_18' : r_17.toInt = 0 := jb_eq (rfl) ((by decide)) c_18
              refine lv_aload_n hx hb dX11_work_51 rfl (lv_at hl 0 rfl) ?_
              refine lv_dup hx hb dX11_work_52 rfl ?_
              obtain ⟨v_19, hv_19, hh_20⟩ := hh_16.pin (C := RX11) (T := TX11) (N := 19) hB13 rfl (by decide) hg_6 (i := 12) (by decide) rfl
              clear hh_16
              obtain ⟨steps_21, rfl⟩ := hv_19
              refine j7_read hx hb hown hK (C := RX11) (T := TX11) (N := 19) rfl hly_13_12 hlk_133 (hh_20.at 0 rfl) dX11_work_53 ?_
              refine lv_iload_n hx hb dX11_work_56 rfl (lv_at hl 2 rfl) ?_
              refine lv_iadd hx hb dX11_work_57 ?_
              refine lv_topi (fun z_22 ez_22 => ?_)
              refine j7_put hx hb hown hK hh_20 hB hAp hB13 (C := RX11) (T := TX11) (N := 19) rfl (by decide) hg_6 (i := 12) (by decide) hly_13_12 rfl hlk_133 rfl (ty := .int) (v := .int z_22) (by decide +kernel) rfl rfl (⟨_, rfl⟩) rfl (L1 := [(bo, 2, 1, .int wc_5), (bo, 2, 0, .ref wr_5), (r0, 13, 4, .ref bo), (r0, 13, 3, .ref ou)]) [1, 2, 3, 4] rfl rfl rfl dX11_work_58 (fun H_23 locs_23 hh_23 => ?_)
              clear hh_20
              refine lv_iload_n hx hb dX11_work_61 rfl (lv_at hl 2 rfl) ?_
              have hsz_24 := hh_23.2.2.2.2.2.1
              have htt_24 := hh_23.2.2.2.2.2.2.1
              refine W.room (fun hrc_24 hrs_24 => ?_)
              refine W.widen (k := LC - s.heap.size) (n := LS - jTot s.heap) (by omega) (by omega) ?_
              rw [hQ]
              exact W.iret (v := v2_5) hx hb hr (fun t ht hW => ⟨⟨v2_5, (wc_5, wr_5, m_wr_5, ph_5, Gx_5), rfl, by (try dsimp only); exact ⟨(by first | (with_reducible assumption) | omega | rfl | fail), (by first | (with_reducible assumption) | omega | rfl | fail), (by first | (with_reducible assumption) | omega | rfl | fail), (by first | (with_reducible assumption) | omega | rfl | fail), (by first | assumption | fail | omega), (by first | (with_reducible assumption) | omega | rfl | fail)⟩, ⟨hh_23.ra (by first | (simp only; omega) | omega) (by first | (simp only; omega) | omega) (M1 := [(bo, 2, 1, .int wc_5), (bo, 2, 0, .ref wr_5)]) [1, 2] rfl ht, hg_wr_5, hN_5, by rw [ht]; exact hh_23.iv 1 rfl, by rw [ht]; exact hh_23.2.2.2.2.2.2.2.2.sub (L1 := [(jFy, jYb dC dI Gx_5), (jFs11, jSef dC dI Gx_5), (jFl, jLs dC dI ca Gx_5 3 none wl), (jFdo, jDcc dC dI ca Gx_5 none ph_5)]) [2, 3, 0, 4] rfl⟩⟩, by rw [ht]; try exact hh_23.1.1, fun q h9 hq => by rw [ht]; try exact hh_23.1.2.1 q h9 hq⟩) hh_23.1.2.2 dX11_work_62
            · skip
              have c_18' : r_17.toInt ≠ 0 := jb_eq_n (rfl) ((by decide)) c_18
              refine lv_iconst (v := 0) hx hb dX11_work_27 (by decide) ?_
              refine lv_istore_n (lv' := [(3, .int 0), (0, .ref r0), (1, .int a1), (2, .int v2_5)]) hx hb dX11_work_28 rfl hl (by decide) rfl (fun ls hl => ?_)
              have L29 : ∀ (N : Nat) (Gx_25 : jT) (zcx_25 : Nat) (zsx_25 : Nat) (v3_25 : Int32) (wc_25 : Int32) (wr_25 : Nat) (m_wr_25 : Nat) (ph_25 : Nat) (H_25 : Heap) (locs_25 : List Loc), jSt (dC, dI) B base G0 Gx_25 EX11_work s.heap zcx_25 zsx_25 [(bo, 2, 1, .int wc_25), (bo, 2, 0, .ref wr_25), (r0, 13, 4, .ref bo), (r0, 13, 3, .ref ou)] [] [(jFl, jLs dC dI ca Gx_25 3 none wl), ([(2, 0), (2, 1)], jOl (dC, dI) G0 2 [bo, ou] s.heap), (jFy, jYb dC dI Gx_25), (jFs11, jSef dC dI Gx_25), (jFdo, jDcc dC dI ca Gx_25 none ph_25)] H_25 locs_25 → (jNk [0, 1, 2, 3, 4, 6, 7, 8, 9, 10, 12, 13, 14, 15, 16]) G0 Gx_25 → jLe Gx_5 Gx_25 → Gx_25 wr_25 = some (196, m_wr_25) → (0 ≤ wc_25.toInt ∧ wc_25.toInt ≤ m_wr_25 ∧ n_pa ≤ m_wr_25 ∧ m_wr_25 ≤ 1048576 ∧ jPw m_wr_25 ∧ ph_25 ≤ ph ∧ zcx_25 ≤ (m_wr_25 - n_pa) / 16 + (ph - ph_25) / 16 ∧ zsx_25 ≤ 2 * (m_wr_25 - n_pa) + (ph - ph_25) ∧ 0 ≤ v3_25.toInt ∧ v3_25.toInt ≤ 2) → (2 - v3_25.toInt : Int) < N → ∀ ls : Array Slot, lv_has ls 4 [(0, .ref r0), (1, .int a1), (2, .int v2_5), (3, .int v3_25)] → W p l e R s m ([.ref r0, .int a1] : List Value).toArray below meth c H_25 locs_25 zcx_25 zsx_25 Q (F0 m 29 ls []) := by
                intro N
                induction N with
                | zero => intro Gx_25 zcx_25 zsx_25 v3_25 wc_25 wr_25 m_wr_25 ph_25 H_25 locs_25 hh_25 hN_25 hle_25 hg_wr_25 hi_25 hm; exact absurd hm (by omega)
                | succ N L29 =>
                  intro Gx_25 zcx_25 zsx_25 v3_25 wc_25 wr_25 m_wr_25 ph_25 H_25 locs_25 hh_25 hN_25 hle_25 hg_wr_25 hi_25 hm_25 ls hl
                  have hg_26 := hle_25 _ _ hg_6
                  have hg_27 := hle_25 _ _ hg_7
                  have hg_28 := hle_25 _ _ hg_8
                  obtain ⟨hi_25_0, hi_25_1, hi_25_2, hi_25_3, hi_25_4, hi_25_5, hi_25_6, hi_25_7, hi_25_8, hi_25_9⟩ := hi_25
                  refine lv_iload_n hx hb dX11_work_29 rfl (lv_at hl 3 rfl) ?_
                  refine lv_iconst (v := 2) hx hb dX11_work_30 (by decide) ?_
                  refine lv_icmp_ge (tgt := 45) hx hb dX11_work_31 (by decide) (fun c_29 => ?_) (fun c_29 => ?_)
                  · skip
                    have c_29' : v3_25.toInt ≥ 2 := jb_ge (rfl) ((by decide)) c_29
                    obtain ⟨z_30, ez_30⟩ : ∃ y : Int32, y = v2_5 + 1 := ⟨_, rfl⟩
                    refine lv_iinc (v := z_30) (lv' := [(2, .int z_30), (0, .ref r0), (1, .int a1), (3, .int v3_25)]) hx hb dX11_work_45 hl (k := 2) rfl (by rw [ez_30]; rfl) (by decide) rfl (fun ls hl => ?_)
                    have hz_30 : z_30.toInt = v2_5.toInt + 1 := by rw [ez_30]; exact jb_iadd2 (rfl) (by decide) (by omega)
                    refine lv_goto (tgt := 15) hx hb dX11_work_48 (by decide) ?_
                    refine W.tight (c2 := zcx_25) (n2 := zsx_25) hh_25.2.2.2.2.2.1 hh_25.2.2.2.2.2.2.1 ?_
                    exact L15 Gx_25 zcx_25 zsx_25 z_30 wc_25 wr_25 m_wr_25 ph_25 _ _ (hh_25.sub (L1 := [(bo, 2, 1, .int wc_25), (bo, 2, 0, .ref wr_25), (r0, 13, 4, .ref bo), (r0, 13, 3, .ref ou)]) [0, 1, 2, 3] rfl (M1 := []) [] rfl (I1 := [([(2, 0), (2, 1)], jOl (dC, dI) G0 2 [bo, ou] s.heap), (jFy, jYb dC dI Gx_25), (jFs11, jSef dC dI Gx_25), (jFl, jLs dC dI ca Gx_25 3 none wl), (jFdo, jDcc dC dI ca Gx_25 none ph_25)]) [1, 2, 3, 0, 4] rfl) (hN_25) ((hle_5).tr hle_25) hg_wr_25 (⟨(by first | (with_reducible assumption) | omega | rfl | fail), (by first | (with_reducible assumption) | omega | rfl | fail), (by first | (with_reducible assumption) | omega | rfl | fail), (by first | (with_reducible assumption) | omega | rfl | fail), (by first | assumption | fail | omega), (by first | (with_reducible assumption) | omega | rfl | fail), (by first | (with_reducible assumption) | omega | rfl | fail), (by first | (with_reducible assumption) | omega | rfl | fail), (by first | (with_reducible assumption) | omega | rfl | fail), (by first | (with_reducible assumption) | omega | rfl | fail)⟩) (by omega) _ (lv_sub hl [1, 2, 0] rfl)
                  · skip
                    have c_29' : v3_25.toInt < 2 := jb_ge_n (rfl) ((by decide)) c_29
                    refine lv_aload_n hx hb dX11_work_34 rfl (lv_at hl 0 rfl) ?_
                    refine lv_iload_n hx hb dX11_work_35 rfl (lv_at hl 3 rfl) ?_
                    have hsz_31 := hh_25.2.2.2.2.2.1
                    have htt_31 := hh_25.2.2.2.2.2.2.1
                    refine W.room (fun hrc_31 hrs_31 => ?_)
                    refine va_callv (A0 := jA base) (H0 := s.heap) (va_runV (As := [.int v3_25]) (rest := []) ⟨hx, hb, hml, hown, hts⟩ (uX11_advance l dC dI ca base B hB hAp hB1 hB2 hB3 hB4 hB5 hB7 hB8 hB9 hB10 hB11 hB12 hB13 hB101 hB102 hB132 hB133 hB171 hB172 hB173 hB174 hB196 hB210 hB211 hB212 hB214 hB221 hB222 hB223 hB280 hB286 hB287 hB288 hB290 hB291 hB292 hB293 hB313 hB315 Gx_25 H_25 r0 v3_25 bo wc_25 wr_25 m_wr_25 ou (ph_25) wl LC LS) (cwV 1 hts (jgV (jWr_77 _ (List.mem_of_getElem? (i := 3) rfl)) (jWr_77 _ (List.mem_of_getElem? (i := 4) rfl)) (jWr_77 _ (List.mem_of_getElem? (i := 5) rfl)) (jWr_1 _ (List.mem_of_getElem? (i := 2) rfl)) (jWr_77 _ (List.mem_of_getElem? (i := 6) rfl))) rfl rfl rfl (by decide +kernel) ⟨by rw [← hR]; exact Nat.le_of_ble_eq_true rfl, by rw [← hR]; exact Nat.le_of_ble_eq_true rfl⟩) ⟨fun a U g mk q => by obtain ⟨q0, q1, q2, qK, q10, q11, q12, q13, q14, q15, q16, q17, q18, q19, q20, q21⟩ := q; exact ⟨q0, q1, q2, jG.calling g mk a qK, (va_K.moved (Vm.Alike.refl U.vm) q10), (jK5.moved (Vm.Alike.refl U.vm) q11), (jK6.moved (Vm.Alike.refl U.vm) q12), (jK7.calling g mk a q13), (jK8.calling g mk a q14), q15, q16, q17, q18, q19, q20, q21⟩, hh_25.recv (C := RX11) (T := TX11) (N := 19) hB13 rfl (by decide) hg_26 hK, fun U hU hW => ⟨rfl, hU, hh_25.2.1, hG.step hW hU hh_25.1, va_K.moved hW.alike hK2, jK5.moved hW.alike hK5, jK6.moved hW.alike hK6, (hK7.step hW hU hh_25.1), (jK8.warm hW hK8), hg_26, hg_27, hg_wr_25, hg_28, (hh_25.2.2.1.sub (L1 := [(r0, 13, 4, .ref bo), (bo, 2, 1, .int wc_25), (bo, 2, 0, .ref wr_25), (r0, 13, 3, .ref ou)]) [2, 0, 1, 3] rfl), (hh_25.2.2.2.2.2.2.2.2.sub (L1 := [(jFy, jYb dC dI Gx_25), (jFs11, jSef dC dI Gx_25), (jFl, jLs dC dI ca Gx_25 3 none wl), (jFdo, jDcc dC dI ca Gx_25 none ph_25)]) [2, 3, 0, 4] rfl), (by omega), (by omega), ⟨(by first | (with_reducible assumption) | omega | rfl | fail), (by first | (with_reducible assumption) | omega | rfl | fail), (by first | (with_reducible assumption) | omega | rfl | fail), (by first | (with_reducible assumption) | omega | rfl | fail), (by first | assumption | fail | omega), (by first | (with_reducible assumption) | omega | rfl | fail), (by first | (with_reducible assumption) | omega | rfl | fail)⟩⟩⟩ rfl rfl hl.1 rfl (lv_room (Nat.le_of_ble_eq_true rfl)) dX11_work_36 ⟨by rw [hRc]; omega, by rw [hRs]; omega⟩) hh_25.1 (fun q _ h => h) (fun q h => h) (fun u_31 t_31 H_31 locs_31 ht_31 hvm_31 hr_32 hb_31 hz_31 hk_31 hS_31 => ?_)
                    obtain ⟨qc_31, qa_31, m_qa_31, qph_31, G_31⟩ := u_31
                    rw [ht_31] at hb_31
                    simp only at hb_31
                    obtain ⟨⟨hb_311, hb_312, hb_313, hb_314, hb_315, hb_316⟩, hgq_31_0, hN_31, hbO_31, hbE_31⟩ := hb_31
                    have hh_31 : jSt (dC, dI) B base G0 G_31 EX11_work s.heap (zcx_25 + ((m_qa_31 - m_wr_25) / 16 + ((ph_25) - qph_31) / 16)) (zsx_25 + (2 * (m_qa_31 - m_wr_25) + ((ph_25) - qph_31))) [(bo, 2, 1, .int qc_31), (bo, 2, 0, .ref qa_31), (r0, 13, 4, .ref bo), (r0, 13, 3, .ref ou)] [] [] H_31 locs_31 := (hh_25.callG hb_311 hb_312 hb_313 hb_314 hb_315 hS_31 rfl (L1 := [(r0, 13, 4, .ref bo), (r0, 13, 3, .ref ou)]) [2, 3] rfl rfl (M1 := []) [] rfl rfl (I1 := []) [] rfl rfl).more hb_316
                    have hNn_31 : (jNk [0, 1, 2, 3, 4, 6, 7, 8, 9, 10, 12, 13, 14, 15, 16]) G0 G_31 := (hN_25).tr hN_31
                    have hg_33 := hb_312 _ _ hg_26
                    have hg_34 := hb_312 _ _ hg_27
                    have hg_35 := hb_312 _ _ hg_28
                    have hh_36 := hh_31.addIs hbE_31
                    have hd_37 := jOl.trL (hh_25.iv 1 rfl) hh_25.2.2.2.2.1 hbO_31 (by simp)
                    have hh_38 := hh_36.addI (jOl.ie (dC := dC) (dI := dI) (G0 := G0) (k := 2) (rs := [bo, ou]) (H0 := s.heap) (F := [(2, 0), (2, 1)]) (C := RX0) (T := TX0) (N := 2) rfl (by decide) hh_36.2.2.2.2.1 (hd_37))
                    clear hh_36
                    try simp only at hr_32
                    obtain ⟨hr_32_0, hr_32_1, hr_32_2, hr_32_3, hr_32_4, hr_32_5⟩ := hr_32
                    obtain ⟨z_39, ez_39⟩ : ∃ y : Int32, y = v3_25 + 1 := ⟨_, rfl⟩
                    refine lv_iinc (v := z_39) (lv' := [(3, .int z_39), (0, .ref r0), (1, .int a1), (2, .int v2_5)]) hx hb dX11_work_39 hl (k := 3) rfl (by rw [ez_39]; rfl) (by decide) rfl (fun ls hl => ?_)
                    have hz_39 : z_39.toInt = v3_25.toInt + 1 := by rw [ez_39]; exact jb_iadd2 (rfl) (by decide) (by omega)
                    refine lv_goto (tgt := 29) hx hb dX11_work_42 (by decide) ?_
                    refine W.tight (c2 := (zcx_25 + ((m_qa_31 - m_wr_25) / 16 + ((ph_25) - qph_31) / 16))) (n2 := (zsx_25 + (2 * (m_qa_31 - m_wr_25) + ((ph_25) - qph_31)))) hh_38.2.2.2.2.2.1 hh_38.2.2.2.2.2.2.1 ?_
                    exact L29 G_31 (zcx_25 + ((m_qa_31 - m_wr_25) / 16 + ((ph_25) - qph_31) / 16)) (zsx_25 + (2 * (m_qa_31 - m_wr_25) + ((ph_25) - qph_31))) z_39 qc_31 qa_31 m_qa_31 qph_31 _ _ (hh_38.sub (L1 := [(bo, 2, 1, .int qc_31), (bo, 2, 0, .ref qa_31), (r0, 13, 4, .ref bo), (r0, 13, 3, .ref ou)]) [0, 1, 2, 3] rfl (M1 := []) [] rfl (I1 := [(jFl, jLs dC dI ca G_31 3 none wl), ([(2, 0), (2, 1)], jOl (dC, dI) G0 2 [bo, ou] s.heap), (jFy, jYb dC dI G_31), (jFs11, jSef dC dI G_31), (jFdo, jDcc dC dI ca G_31 none qph_31)]) [3, 0, 1, 2, 4] rfl) (hNn_31) ((hle_25).tr hb_312) hgq_31_0 (⟨(by first | (with_reducible assumption) | omega | rfl | fail), (by first | (with_reducible assumption) | omega | rfl | fail), (by first | (with_reducible assumption) | omega | rfl | fail), (by first | (with_reducible assumption) | omega | rfl | fail), (by first | assumption | fail | omega), (by first | (with_reducible assumption) | omega | rfl | fail), (by first | (with_reducible assumption) | omega | rfl | fail), (by first | (with_reducible assumption) | omega | rfl | fail), (by first | (with_reducible assumption) | omega | rfl | fail), (by first | (with_reducible assumption) | omega | rfl | fail)⟩) (by omega) _ (lv_sub hl [1, 2, 3, 0] rfl)
              refine W.tight (c2 := zcx_5) (n2 := zsx_5) hh_16.2.2.2.2.2.1 hh_16.2.2.2.2.2.2.1 ?_
              exact L29 (2 - (0 : Int32).toInt : Int).toNat.succ Gx_5 zcx_5 zsx_5 0 wc_5 wr_5 m_wr_5 ph_5 _ _ hh_16 (hN_5) (jLe.rf) hg_wr_5 (⟨(by first | (with_reducible assumption) | omega | rfl | fail), (by first | (with_reducible assumption) | omega | rfl | fail), (by first | (with_reducible assumption) | omega | rfl | fail), (by first | (with_reducible assumption) | omega | rfl | fail), (by first | assumption | fail | omega), (by first | (with_reducible assumption) | omega | rfl | fail), (by first | (with_reducible assumption) | omega | rfl | fail), (by first | (with_reducible assumption) | omega | rfl | fail), (by first | (with_reducible assumption) | omega | rfl | fail), (by first | (with_reducible assumption) | omega | rfl | fail)⟩) (by omega) _ (lv_sub hl [1, 2, 3, 0] rfl)
      refine W.tight (c2 := 0) (n2 := 0) hh_1.2.2.2.2.2.1 hh_1.2.2.2.2.2.2.1 ?_
      exact L15 (a1.toInt - (0 : Int32).toInt : Int).toNat.succ G0 0 0 0 pc pa n_pa ph _ _ (hh_1.sub (L1 := [(bo, 2, 1, .int pc), (bo, 2, 0, .ref pa), (r0, 13, 4, .ref bo), (r0, 13, 3, .ref ou)]) [1, 2, 0, 3] rfl (M1 := []) [] rfl (I1 := [([(2, 0), (2, 1)], jOl (dC, dI) G0 2 [bo, ou] s.heap), (jFy, jYb dC dI G0), (jFs11, jSef dC dI G0), (jFl, jLs dC dI ca G0 3 none wl), (jFdo, jDcc dC dI ca G0 none ph)]) [0, 1, 2, 3, 4] rfl) (jNk.rf) (jLe.rf) hg_pa (⟨(by first | (with_reducible assumption) | omega | rfl | fail), (by first | (with_reducible assumption) | omega | rfl | fail), (by first | (with_reducible assumption) | omega | rfl | fail), (by first | (with_reducible assumption) | omega | rfl | fail), (by first | assumption | fail | omega), (by first | (with_reducible assumption) | omega | rfl | fail), (by first | (with_reducible assumption) | omega | rfl | fail), (by first | (with_reducible assumption) | omega | rfl | fail), (by first | (with_reducible assumption) | omega | rfl | fail), (by first | (with_reducible assumption) | omega | rfl | fail)⟩) (by omega) _ (lv_sub hl [1, 2, 0] rfl)
    · skip
      have c_4' : a1.toInt > 10000 := jb_le_n (rfl) ((by decide)) c_4
      refine lv_iconst (v := (-1)) hx hb dX11_work_11 (by decide) ?_
      have hsz_40 := hh_1.2.2.2.2.2.1
      have htt_40 := hh_1.2.2.2.2.2.2.1
      refine W.room (fun hrc_40 hrs_40 => ?_)
      refine W.widen (k := LC - s.heap.size) (n := LS - jTot s.heap) (by omega) (by omega) ?_
      rw [hQ]
      exact W.iret (v := (-1)) hx hb hr (fun t ht hW => ⟨⟨(-1), (pc, pa, n_pa, ph, G0), rfl, by (try dsimp only); exact ⟨(by first | (with_reducible assumption) | omega | rfl | fail), (by first | (with_reducible assumption) | omega | rfl | fail), (by first | (with_reducible assumption) | omega | rfl | fail), (by first | (with_reducible assumption) | omega | rfl | fail), (by first | assumption | fail | omega), (by first | (with_reducible assumption) | omega | rfl | fail)⟩, ⟨hh_1.ra (by first | (simp only; omega) | omega) (by first | (simp only; omega) | omega) (M1 := [(bo, 2, 1, .int pc), (bo, 2, 0, .ref pa)]) [1, 2] rfl ht, hg_pa, jNk.rf, by rw [ht]; exact hh_1.iv 0 rfl, by rw [ht]; exact hh_1.2.2.2.2.2.2.2.2.sub (L1 := [(jFy, jYb dC dI G0), (jFs11, jSef dC dI G0), (jFl, jLs dC dI ca G0 3 none wl), (jFdo, jDcc dC dI ca G0 none ph)]) [1, 2, 3, 4] rfl⟩⟩, by rw [ht]; try exact hh_1.1.1, fun q h9 hq => by rw [ht]; try exact hh_1.1.2.1 q h9 hq⟩) hh_1.1.2.2 dX11_work_12
end
