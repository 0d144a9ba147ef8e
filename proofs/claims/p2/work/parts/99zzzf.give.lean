theorem dX11_give_0 : decode cX11_give 0 = .ok (.iload_n 1, 1) := by decide +kernel
theorem dX11_give_1 : decode cX11_give 1 = .ok (.ifCond .lt 14, 3) := by decide +kernel
theorem dX11_give_4 : decode cX11_give 4 = .ok (.iload_n 1, 1) := by decide +kernel
theorem dX11_give_5 : decode cX11_give 5 = .ok (.aload_n 0, 1) := by decide +kernel
theorem dX11_give_6 : decode cX11_give 6 = .ok (.getfield 14, 3) := by decide +kernel
theorem dX11_give_9 : decode cX11_give 9 = .ok (.getfield 92, 3) := by decide +kernel
theorem dX11_give_12 : decode cX11_give 12 = .ok (.if_icmp .le 5, 3) := by decide +kernel
theorem dX11_give_15 : decode cX11_give 15 = .ok (.iconst (-1), 1) := by decide +kernel
theorem dX11_give_16 : decode cX11_give 16 = .ok (.ireturn, 1) := by decide +kernel
theorem dX11_give_17 : decode cX11_give 17 = .ok (.iconst 0, 1) := by decide +kernel
theorem dX11_give_18 : decode cX11_give 18 = .ok (.istore_n 2, 1) := by decide +kernel
theorem dX11_give_19 : decode cX11_give 19 = .ok (.iload_n 2, 1) := by decide +kernel
theorem dX11_give_20 : decode cX11_give 20 = .ok (.iload_n 1, 1) := by decide +kernel
theorem dX11_give_21 : decode cX11_give 21 = .ok (.if_icmp .ge 86, 3) := by decide +kernel
theorem dX11_give_24 : decode cX11_give 24 = .ok (.iload_n 2, 1) := by decide +kernel
theorem dX11_give_25 : decode cX11_give 25 = .ok (.aload_n 0, 1) := by decide +kernel
theorem dX11_give_26 : decode cX11_give 26 = .ok (.getfield 14, 3) := by decide +kernel
theorem dX11_give_29 : decode cX11_give 29 = .ok (.getfield 98, 3) := by decide +kernel
theorem dX11_give_32 : decode cX11_give 32 = .ok (.arraylength, 1) := by decide +kernel
theorem dX11_give_33 : decode cX11_give 33 = .ok (.if_icmp .ge 74, 3) := by decide +kernel
theorem dX11_give_36 : decode cX11_give 36 = .ok (.aload_n 0, 1) := by decide +kernel
theorem dX11_give_37 : decode cX11_give 37 = .ok (.getfield 21, 3) := by decide +kernel
theorem dX11_give_40 : decode cX11_give 40 = .ok (.getfield 102, 3) := by decide +kernel
theorem dX11_give_43 : decode cX11_give 43 = .ok (.ifCond .ne 64, 3) := by decide +kernel
theorem dX11_give_46 : decode cX11_give 46 = .ok (.aload_n 0, 1) := by decide +kernel
theorem dX11_give_47 : decode cX11_give 47 = .ok (.getfield 21, 3) := by decide +kernel
theorem dX11_give_50 : decode cX11_give 50 = .ok (.aload_n 0, 1) := by decide +kernel
theorem dX11_give_51 : decode cX11_give 51 = .ok (.getfield 14, 3) := by decide +kernel
theorem dX11_give_54 : decode cX11_give 54 = .ok (.getfield 98, 3) := by decide +kernel
theorem dX11_give_57 : decode cX11_give 57 = .ok (.iload_n 2, 1) := by decide +kernel
theorem dX11_give_58 : decode cX11_give 58 = .ok (.baload, 1) := by decide +kernel
theorem dX11_give_59 : decode cX11_give 59 = .ok (.sipush 255, 3) := by decide +kernel
theorem dX11_give_62 : decode cX11_give 62 = .ok (.iand, 1) := by decide +kernel
theorem dX11_give_63 : decode cX11_give 63 = .ok (.invokevirtual 106, 3) := by decide +kernel
theorem dX11_give_66 : decode cX11_give 66 = .ok (.ifCond .eq 35, 3) := by decide +kernel
theorem dX11_give_69 : decode cX11_give 69 = .ok (.aload_n 0, 1) := by decide +kernel
theorem dX11_give_70 : decode cX11_give 70 = .ok (.invokevirtual 110, 3) := by decide +kernel
theorem dX11_give_73 : decode cX11_give 73 = .ok (.astore_n 3, 1) := by decide +kernel
theorem dX11_give_74 : decode cX11_give 74 = .ok (.aload_n 3, 1) := by decide +kernel
theorem dX11_give_75 : decode cX11_give 75 = .ok (.ifnull 18, 3) := by decide +kernel
theorem dX11_give_78 : decode cX11_give 78 = .ok (.aload_n 3, 1) := by decide +kernel
theorem dX11_give_79 : decode cX11_give 79 = .ok (.getfield 114, 3) := by decide +kernel
theorem dX11_give_82 : decode cX11_give 82 = .ok (.ifnull 11, 3) := by decide +kernel
theorem dX11_give_85 : decode cX11_give 85 = .ok (.aload_n 0, 1) := by decide +kernel
theorem dX11_give_86 : decode cX11_give 86 = .ok (.aload_n 3, 1) := by decide +kernel
theorem dX11_give_87 : decode cX11_give 87 = .ok (.invokevirtual 119, 3) := by decide +kernel
theorem dX11_give_90 : decode cX11_give 90 = .ok (.goto 11, 3) := by decide +kernel
theorem dX11_give_93 : decode cX11_give 93 = .ok (.aload_n 3, 1) := by decide +kernel
theorem dX11_give_94 : decode cX11_give 94 = .ok (.ifnull 7, 3) := by decide +kernel
theorem dX11_give_97 : decode cX11_give 97 = .ok (.aload_n 0, 1) := by decide +kernel
theorem dX11_give_98 : decode cX11_give 98 = .ok (.invokevirtual 123, 3) := by decide +kernel
theorem dX11_give_101 : decode cX11_give 101 = .ok (.iinc 2 1, 3) := by decide +kernel
theorem dX11_give_104 : decode cX11_give 104 = .ok (.goto (-85), 3) := by decide +kernel
theorem dX11_give_107 : decode cX11_give 107 = .ok (.aload_n 0, 1) := by decide +kernel
theorem dX11_give_108 : decode cX11_give 108 = .ok (.getfield 14, 3) := by decide +kernel
theorem dX11_give_111 : decode cX11_give 111 = .ok (.iconst 0, 1) := by decide +kernel
theorem dX11_give_112 : decode cX11_give 112 = .ok (.putfield 92, 3) := by decide +kernel
theorem dX11_give_115 : decode cX11_give 115 = .ok (.aload_n 0, 1) := by decide +kernel
theorem dX11_give_116 : decode cX11_give 116 = .ok (.getfield 32, 3) := by decide +kernel
theorem dX11_give_119 : decode cX11_give 119 = .ok (.getfield 92, 3) := by decide +kernel
theorem dX11_give_122 : decode cX11_give 122 = .ok (.ireturn, 1) := by decide +kernel
def EX11_give : List (Nat × Nat) := [(1, 0), (1, 1), (1, 2), (2, 0), (2, 1), (3, 0), (3, 1), (3, 3), (3, 4), (3, 10), (3, 11), (3, 12), (3, 13), (3, 14), (3, 15), (3, 16), (4, 1), (4, 2), (4, 3), (4, 4), (4, 5), (4, 6), (4, 7), (4, 8), (4, 9), (4, 10), (4, 11), (6, 7), (6, 8), (6, 9), (6, 10), (6, 11), (8, 3), (9, 2), (10, 1), (10, 2), (10, 3), (10, 4), (12, 3), (13, 11), (13, 14), (100, 0), (101, 0), (102, 0), (132, 0), (133, 0), (140, 0), (141, 0), (142, 0), (143, 0), (144, 0), (145, 0), (146, 0), (171, 0), (172, 0), (196, 0), (212, 0), (221, 0), (222, 0), (223, 0), (286, 0), (287, 0), (288, 0), (293, 0)]
set_option maxHeartbeats 4000000 in
set_option maxRecDepth 20000 in
theorem uX11_give (l : Launch) (dC : Nat → ClassId) (dI : Nat → Nat → Nat) (ca : Nat → ClassId) (base : Nat) (B : jF) (hB : jBok B) (hAp : jAp (dC, dI)) (hB1 : ∀ n G a H, B 1 n G a H ↔ jOb (dC, dI) 1 3 (F1 n G) a H) (hB2 : ∀ n G a H, B 2 n G a H ↔ jOb (dC, dI) 2 2 (F2 n G) a H) (hB3 : ∀ n G a H, B 3 n G a H ↔ jOb (dC, dI) 3 17 (F3 n G) a H) (hB4 : ∀ n G a H, B 4 n G a H ↔ jOb (dC, dI) 4 12 (F4 n G) a H) (hB5 : ∀ n G a H, B 5 n G a H ↔ jOb (dC, dI) 5 4 (F5 n G) a H) (hB6 : ∀ n G a H, B 6 n G a H ↔ jOb (dC, dI) 6 12 (F6 n G) a H) (hB7 : ∀ n G a H, B 7 n G a H ↔ jOb (dC, dI) 7 11 (F7 n G) a H) (hB8 : ∀ n G a H, B 8 n G a H ↔ jOb (dC, dI) 8 4 (F8 n G) a H) (hB9 : ∀ n G a H, B 9 n G a H ↔ jOb (dC, dI) 9 5 (F9b n G) a H) (hB10 : ∀ n G a H, B 10 n G a H ↔ jOb (dC, dI) 10 5 (F10 n G) a H) (hB11 : ∀ n G a H, B 11 n G a H ↔ jOb (dC, dI) 11 9 (F11 n G) a H) (hB12 : ∀ n G a H, B 12 n G a H ↔ jOb (dC, dI) 12 11 (F12b n G) a H) (hB13 : ∀ n G a H, B 13 n G a H ↔ jOb (dC, dI) 13 19 (F13 n G) a H) (hB100 : ∀ n G a H, B 100 n G a H ↔ jAr (dC, dI) (ca 0) (fun j z => True) n a H) (hB101 : ∀ n G a H, B 101 n G a H ↔ jAr (dC, dI) (ca 1) (fun j z => True) n a H) (hB102 : ∀ n G a H, B 102 n G a H ↔ jAl (dC, dI) (ca 2) n a H) (hB132 : ∀ n G a H, B 132 n G a H ↔ jAr (dC, dI) (ca 1) (fun j z => 0 ≤ z.toInt ∧ z.toInt ≤ 10) n a H) (hB133 : ∀ n G a H, B 133 n G a H ↔ jAr (dC, dI) (ca 1) (fun j z => 0 ≤ z.toInt ∧ z.toInt ≤ 8192) n a H) (hB140 : ∀ n G a H, B 140 n G a H ↔ jAr (dC, dI) (ca 1) (fun j z => True) n a H) (hB141 : ∀ n G a H, B 141 n G a H ↔ jAr (dC, dI) (ca 1) (fun j z => True) n a H) (hB142 : ∀ n G a H, B 142 n G a H ↔ jAr (dC, dI) (ca 1) (fun j z => True) n a H) (hB143 : ∀ n G a H, B 143 n G a H ↔ jAr (dC, dI) (ca 1) (fun j z => True) n a H) (hB144 : ∀ n G a H, B 144 n G a H ↔ jAr (dC, dI) (ca 1) (fun j z => 0 ≤ z.toInt ∧ z.toInt ≤ 3000) n a H) (hB145 : ∀ n G a H, B 145 n G a H ↔ jAr (dC, dI) (ca 1) (fun j z => True) n a H) (hB146 : ∀ n G a H, B 146 n G a H ↔ jAr (dC, dI) (ca 1) (fun j z => True) n a H) (hB171 : ∀ n G a H, B 171 n G a H ↔ jAr (dC, dI) (ca 1) (fun j z => 0 ≤ z.toInt ∧ z.toInt ≤ 1500) n a H) (hB172 : ∀ n G a H, B 172 n G a H ↔ jAr (dC, dI) (ca 1) (fun j z => 0 ≤ z.toInt ∧ z.toInt ≤ 1500) n a H) (hB196 : ∀ n G a H, B 196 n G a H ↔ jAr (dC, dI) (ca 0) (fun j z => jBf j z) n a H) (hB210 : ∀ n G a H, B 210 n G a H ↔ jAq (dC, dI) (ca 6) (jQn 11 0) n G a H) (hB212 : ∀ n G a H, B 212 n G a H ↔ jAq (dC, dI) (ca 5) (jQn 3 0) n G a H) (hB214 : ∀ n G a H, B 214 n G a H ↔ jAq (dC, dI) (ca 7) (jQg) n G a H) (hB221 : ∀ n G a H, B 221 n G a H ↔ jAq (dC, dI) (ca 9) (jQn 3 0) n G a H) (hB222 : ∀ n G a H, B 222 n G a H ↔ jAq (dC, dI) (ca 9) (jQn 10 0) n G a H) (hB280 : ∀ n G a H, B 280 n G a H ↔ jAr (dC, dI) (ca 1) (fun j z => -1 ≤ z.toInt) n a H) (hB286 : ∀ n G a H, B 286 n G a H ↔ jAr (dC, dI) (ca 1) (fun j z => (0 ≤ z.toInt ∨ z.toInt = -3)) n a H) (hB287 : ∀ n G a H, B 287 n G a H ↔ jAr (dC, dI) (ca 1) (fun j z => 0 ≤ z.toInt ∧ z.toInt ≤ 65535) n a H) (hB288 : ∀ n G a H, B 288 n G a H ↔ jAr (dC, dI) (ca 1) (fun j z => 0 ≤ z.toInt ∧ z.toInt ≤ 160) n a H) (hB293 : ∀ n G a H, B 293 n G a H ↔ jAr (dC, dI) (ca 1) (fun j z => -1 ≤ z.toInt ∧ z.toInt ≤ 8191) n a H) (hB313 : ∀ n G a H, B 313 n G a H ↔ jAq (dC, dI) (ca 8) (jQk 280 80) n G a H) (G0 : jT) (H0 : Heap) (r0 : Nat) (a1 : Int32) (bo : Nat) (pc : Int32) (pa : Nat) (n_pa : Nat) (ou : Nat) (ta : Nat) (pt : Int32) (pr : Nat) (n_pr : Nat) (fm : Nat) (il : Int32) (sg : Int32) (sv : Int32) (br : Int32) (fi : Int32) (ke : Int32) (pl : Int32) (to : Int32) (ph : Nat) (LC LS : Nat) : Met l yX11_give (jw yX11_give cX11_give 4 (some .int)) ({ frames := 31, cells := LC - H0.size, slots := LS - jTot H0, locals := 1871 }) (va_Pc [.ref r0, .int a1] (fun U => U.heap = H0 ∧ jX B base G0 [] H0 ∧ jG dC dI ca base U ∧ jK2 dC dI ca U ∧ jK5 dC dI ca U ∧ jK6 U ∧ jK7 dC dI ca base U ∧ G0 r0 = some (13, 0) ∧ G0 bo = some (2, 0) ∧ G0 pa = some (196, n_pa) ∧ G0 ou = some (2, 20000) ∧ G0 ta = some (2, 4000) ∧ G0 pr = some (196, n_pr) ∧ G0 fm = some (4, 0) ∧ jP (dC, dI) G0 H0 [(r0, 13, 4, .ref bo), (bo, 2, 1, .int pc), (bo, 2, 0, .ref pa), (r0, 13, 3, .ref ou), (r0, 13, 0, .ref ta), (ta, 2, 1, .int pt), (ta, 2, 0, .ref pr), (r0, 13, 1, .ref fm), (fm, 4, 9, .int il), (fm, 4, 8, .int sg), (fm, 4, 11, .int sv), (fm, 4, 4, .int br), (fm, 4, 7, .int fi), (fm, 4, 2, .int ke), (fm, 4, 5, .int pl), (fm, 4, 6, .int to)] ∧ jIs (dC, dI) G0 H0 [(jFy, jYb dC dI G0), (jFs11, jSef dC dI G0), (jFl, jLs dC dI ca G0 3 none), (jFdo, jDcc dC dI ca G0 none ph)] ∧ H0.size + (1048576 - n_pa) / 16 + (ph + 200 * (pt.toInt.toNat + ke.toInt.toNat)) / 16 + 100 ≤ LC ∧ jTot H0 + 2 * (1048576 - n_pa) + (ph + 200 * (pt.toInt.toNat + ke.toInt.toNat)) + 4000 ≤ LS ∧ 0 ≤ pc.toInt ∧ pc.toInt ≤ n_pa ∧ 16 ≤ n_pa ∧ n_pa ≤ 1048576 ∧ jPw n_pa ∧ 0 ≤ sg.toInt + 4294967296 * (1 - il.toInt) ∧ sg.toInt ≤ 14 + 4294967296 * (1 - il.toInt) ∧ 0 ≤ il.toInt ∧ il.toInt ≤ 1 ∧ 0 ≤ sv.toInt ∧ sv.toInt ≤ 3000 + 100000 * br.toInt ∧ 0 ≤ br.toInt ∧ br.toInt ≤ 1 ∧ 0 ≤ fi.toInt ∧ fi.toInt ≤ 3000 ∧ -1 ≤ to.toInt ∧ to.toInt ≤ 3000 ∧ 0 ≤ ke.toInt ∧ ke.toInt ≤ 200 + fi.toInt ∧ (br.toInt = 1 ∨ (0 ≤ pl.toInt ∧ pl.toInt ≤ 6 ∧ fi.toInt ≤ ke.toInt ∧ (pl.toInt ≤ 4 ∨ (fi.toInt + 1 ≤ ke.toInt ∧ 0 ≤ to.toInt)) ∧ (pl.toInt ≤ 5 ∨ fi.toInt + 2 ≤ ke.toInt))) ∧ 0 ≤ pt.toInt ∧ pt.toInt ≤ 4000 ∧ n_pr = 4000)) (va_Qi (S := Int32 × Int32 × Int32 × Int32 × Int32 × Int32 × Int32 × Int32 × Int32 × Int32 × Nat × Nat × Nat × Nat × jT) (fun r u => (0 ≤ u.1.toInt ∧ u.1.toInt ≤ u.2.2.2.2.2.2.2.2.2.2.2.1 ∧ n_pa ≤ u.2.2.2.2.2.2.2.2.2.2.2.1 ∧ u.2.2.2.2.2.2.2.2.2.2.2.1 ≤ 1048576 ∧ jPw u.2.2.2.2.2.2.2.2.2.2.2.1 ∧ u.2.2.2.2.2.2.2.2.2.2.2.2.2.1 = u.2.2.2.2.2.2.2.2.2.2.2.2.1 + 200 * (u.2.1.toInt + u.2.2.2.2.2.2.2.1.toInt) ∧ u.2.2.2.2.2.2.2.2.2.2.2.2.2.1 ≤ ph + 200 * (pt.toInt + ke.toInt) ∧ ((a1.toInt < 0 ∨ pt.toInt < a1.toInt) ∧ u.2.1.toInt = pt.toInt ∨ 0 ≤ a1.toInt ∧ a1.toInt ≤ pt.toInt ∧ u.2.1.toInt = 0) ∧ 0 ≤ u.2.2.2.1.toInt + 4294967296 * (1 - u.2.2.1.toInt) ∧ u.2.2.2.1.toInt ≤ 14 + 4294967296 * (1 - u.2.2.1.toInt) ∧ 0 ≤ u.2.2.1.toInt ∧ u.2.2.1.toInt ≤ 1 ∧ 0 ≤ u.2.2.2.2.1.toInt ∧ u.2.2.2.2.1.toInt ≤ 3000 + 100000 * u.2.2.2.2.2.1.toInt ∧ 0 ≤ u.2.2.2.2.2.1.toInt ∧ u.2.2.2.2.2.1.toInt ≤ 1 ∧ 0 ≤ u.2.2.2.2.2.2.1.toInt ∧ u.2.2.2.2.2.2.1.toInt ≤ 3000 ∧ -1 ≤ u.2.2.2.2.2.2.2.2.2.1.toInt ∧ u.2.2.2.2.2.2.2.2.2.1.toInt ≤ 3000 ∧ 0 ≤ u.2.2.2.2.2.2.2.1.toInt ∧ u.2.2.2.2.2.2.2.1.toInt ≤ 200 + u.2.2.2.2.2.2.1.toInt ∧ (u.2.2.2.2.2.1.toInt = 1 ∨ (0 ≤ u.2.2.2.2.2.2.2.2.1.toInt ∧ u.2.2.2.2.2.2.2.2.1.toInt ≤ 6 ∧ u.2.2.2.2.2.2.1.toInt ≤ u.2.2.2.2.2.2.2.1.toInt ∧ (u.2.2.2.2.2.2.2.2.1.toInt ≤ 4 ∨ (u.2.2.2.2.2.2.1.toInt + 1 ≤ u.2.2.2.2.2.2.2.1.toInt ∧ 0 ≤ u.2.2.2.2.2.2.2.2.2.1.toInt)) ∧ (u.2.2.2.2.2.2.2.2.1.toInt ≤ 5 ∨ u.2.2.2.2.2.2.1.toInt + 2 ≤ u.2.2.2.2.2.2.2.1.toInt))))) (fun u t => jRa (dC, dI) B base G0 u.2.2.2.2.2.2.2.2.2.2.2.2.2.2 EX11_give H0 (((u.2.2.2.2.2.2.2.2.2.2.2.1 - n_pa) + (ph + 200 * (pt.toInt.toNat + ke.toInt.toNat) - u.2.2.2.2.2.2.2.2.2.2.2.2.2.1)) / 16) (2 * (u.2.2.2.2.2.2.2.2.2.2.2.1 - n_pa) + (ph + 200 * (pt.toInt.toNat + ke.toInt.toNat) - u.2.2.2.2.2.2.2.2.2.2.2.2.2.1)) [(bo, 2, 1, .int u.1), (ta, 2, 1, .int u.2.1), (fm, 4, 9, .int u.2.2.1), (fm, 4, 8, .int u.2.2.2.1), (fm, 4, 11, .int u.2.2.2.2.1), (fm, 4, 4, .int u.2.2.2.2.2.1), (fm, 4, 7, .int u.2.2.2.2.2.2.1), (fm, 4, 2, .int u.2.2.2.2.2.2.2.1), (fm, 4, 5, .int u.2.2.2.2.2.2.2.2.1), (fm, 4, 6, .int u.2.2.2.2.2.2.2.2.2.1), (bo, 2, 0, .ref u.2.2.2.2.2.2.2.2.2.2.1)] t.heap ∧ u.2.2.2.2.2.2.2.2.2.2.2.2.2.2 u.2.2.2.2.2.2.2.2.2.2.1 = some (196, u.2.2.2.2.2.2.2.2.2.2.2.1) ∧ (jNk [0, 1, 4, 5, 6, 7, 8, 9, 11, 12, 13, 14, 15, 16]) G0 u.2.2.2.2.2.2.2.2.2.2.2.2.2.2 ∧ jOl (dC, dI) G0 2 [bo, ou, ta] H0 t.heap ∧ jIs (dC, dI) u.2.2.2.2.2.2.2.2.2.2.2.2.2.2 t.heap [(jFy, jYb dC dI u.2.2.2.2.2.2.2.2.2.2.2.2.2.2), (jFs11, jSef dC dI u.2.2.2.2.2.2.2.2.2.2.2.2.2.2), (jFl, jLs dC dI ca u.2.2.2.2.2.2.2.2.2.2.2.2.2.2 3 none), (jFdo, jDcc dC dI ca u.2.2.2.2.2.2.2.2.2.2.2.2.2.2 none (u.2.2.2.2.2.2.2.2.2.2.2.2.1))]) (jA base)) (LC - H0.size) (LS - jTot H0) (jA base) := by
  refine Met.ofW (cc := cX11_give) (maxL := 4) (ret := (some .int)) (by decide) rfl ?_
  intro p e s m args below meth c s₁ Bd hml hv
  obtain ⟨rfl, hH0, hX, hG, hK2, hK5, hK6, hK7, hg_r0, hg_bo, hg_pa, hg_ou, hg_ta, hg_pr, hg_fm, hP0, hI0, hLC0, hLS0, hp0, hp1, hp2, hp3, hp4, hp5, hp6, hp7, hp8, hp9, hp10, hp11, hp12, hp13, hp14, hp15, hp16, hp17, hp18, hp19, hp20, hp21, hp22⟩ := hv
  have hK := hG.1
  have hx := Bd.exec
  have hb := Bd.bytes
  have hr := Bd.returns
  have hts := atoms_spec (ws := (jw yX11_give cX11_give 4 (some .int))) Bd.pre
  have htw : ∀ w ∈ jWl, w.before _ s = true := fun w h => hts w (List.mem_cons_of_mem _ h)
  have hown : s.vm.findClass RX11 = some m.cls := findClass_of_methodNamed Bd.named
  have hlocks := Bd.notSynchronized
  obtain ⟨Q, hQ⟩ : ∃ Q, Q = MQ below (va_Qi (S := Int32 × Int32 × Int32 × Int32 × Int32 × Int32 × Int32 × Int32 × Int32 × Int32 × Nat × Nat × Nat × Nat × jT) (fun r u => (0 ≤ u.1.toInt ∧ u.1.toInt ≤ u.2.2.2.2.2.2.2.2.2.2.2.1 ∧ n_pa ≤ u.2.2.2.2.2.2.2.2.2.2.2.1 ∧ u.2.2.2.2.2.2.2.2.2.2.2.1 ≤ 1048576 ∧ jPw u.2.2.2.2.2.2.2.2.2.2.2.1 ∧ u.2.2.2.2.2.2.2.2.2.2.2.2.2.1 = u.2.2.2.2.2.2.2.2.2.2.2.2.1 + 200 * (u.2.1.toInt + u.2.2.2.2.2.2.2.1.toInt) ∧ u.2.2.2.2.2.2.2.2.2.2.2.2.2.1 ≤ ph + 200 * (pt.toInt + ke.toInt) ∧ ((a1.toInt < 0 ∨ pt.toInt < a1.toInt) ∧ u.2.1.toInt = pt.toInt ∨ 0 ≤ a1.toInt ∧ a1.toInt ≤ pt.toInt ∧ u.2.1.toInt = 0) ∧ 0 ≤ u.2.2.2.1.toInt + 4294967296 * (1 - u.2.2.1.toInt) ∧ u.2.2.2.1.toInt ≤ 14 + 4294967296 * (1 - u.2.2.1.toInt) ∧ 0 ≤ u.2.2.1.toInt ∧ u.2.2.1.toInt ≤ 1 ∧ 0 ≤ u.2.2.2.2.1.toInt ∧ u.2.2.2.2.1.toInt ≤ 3000 + 100000 * u.2.2.2.2.2.1.toInt ∧ 0 ≤ u.2.2.2.2.2.1.toInt ∧ u.2.2.2.2.2.1.toInt ≤ 1 ∧ 0 ≤ u.2.2.2.2.2.2.1.toInt ∧ u.2.2.2.2.2.2.1.toInt ≤ 3000 ∧ -1 ≤ u.2.2.2.2.2.2.2.2.2.1.toInt ∧ u.2.2.2.2.2.2.2.2.2.1.toInt ≤ 3000 ∧ 0 ≤ u.2.2.2.2.2.2.2.1.toInt ∧ u.2.2.2.2.2.2.2.1.toInt ≤ 200 + u.2.2.2.2.2.2.1.toInt ∧ (u.2.2.2.2.2.1.toInt = 1 ∨ (0 ≤ u.2.2.2.2.2.2.2.2.1.toInt ∧ u.2.2.2.2.2.2.2.2.1.toInt ≤ 6 ∧ u.2.2.2.2.2.2.1.toInt ≤ u.2.2.2.2.2.2.2.1.toInt ∧ (u.2.2.2.2.2.2.2.2.1.toInt ≤ 4 ∨ (u.2.2.2.2.2.2.1.toInt + 1 ≤ u.2.2.2.2.2.2.2.1.toInt ∧ 0 ≤ u.2.2.2.2.2.2.2.2.2.1.toInt)) ∧ (u.2.2.2.2.2.2.2.2.1.toInt ≤ 5 ∨ u.2.2.2.2.2.2.1.toInt + 2 ≤ u.2.2.2.2.2.2.2.1.toInt))))) (fun u t => jRa (dC, dI) B base G0 u.2.2.2.2.2.2.2.2.2.2.2.2.2.2 EX11_give H0 (((u.2.2.2.2.2.2.2.2.2.2.2.1 - n_pa) + (ph + 200 * (pt.toInt.toNat + ke.toInt.toNat) - u.2.2.2.2.2.2.2.2.2.2.2.2.2.1)) / 16) (2 * (u.2.2.2.2.2.2.2.2.2.2.2.1 - n_pa) + (ph + 200 * (pt.toInt.toNat + ke.toInt.toNat) - u.2.2.2.2.2.2.2.2.2.2.2.2.2.1)) [(bo, 2, 1, .int u.1), (ta, 2, 1, .int u.2.1), (fm, 4, 9, .int u.2.2.1), (fm, 4, 8, .int u.2.2.2.1), (fm, 4, 11, .int u.2.2.2.2.1), (fm, 4, 4, .int u.2.2.2.2.2.1), (fm, 4, 7, .int u.2.2.2.2.2.2.1), (fm, 4, 2, .int u.2.2.2.2.2.2.2.1), (fm, 4, 5, .int u.2.2.2.2.2.2.2.2.1), (fm, 4, 6, .int u.2.2.2.2.2.2.2.2.2.1), (bo, 2, 0, .ref u.2.2.2.2.2.2.2.2.2.2.1)] t.heap ∧ u.2.2.2.2.2.2.2.2.2.2.2.2.2.2 u.2.2.2.2.2.2.2.2.2.2.1 = some (196, u.2.2.2.2.2.2.2.2.2.2.2.1) ∧ (jNk [0, 1, 4, 5, 6, 7, 8, 9, 11, 12, 13, 14, 15, 16]) G0 u.2.2.2.2.2.2.2.2.2.2.2.2.2.2 ∧ jOl (dC, dI) G0 2 [bo, ou, ta] H0 t.heap ∧ jIs (dC, dI) u.2.2.2.2.2.2.2.2.2.2.2.2.2.2 t.heap [(jFy, jYb dC dI u.2.2.2.2.2.2.2.2.2.2.2.2.2.2), (jFs11, jSef dC dI u.2.2.2.2.2.2.2.2.2.2.2.2.2.2), (jFl, jLs dC dI ca u.2.2.2.2.2.2.2.2.2.2.2.2.2.2 3 none), (jFdo, jDcc dC dI ca u.2.2.2.2.2.2.2.2.2.2.2.2.2.2 none (u.2.2.2.2.2.2.2.2.2.2.2.2.1))]) (jA base)) ([.ref r0, .int a1] : List Value).toArray s (LC - H0.size) (LS - jTot H0) (jA base) := ⟨_, rfl⟩
  rw [← hQ]
  have hl := lv_entry ([.ref r0, .int a1]) (n := 4) (Nat.le_of_ble_eq_true rfl)
  rw [lg_entry_eq]
  generalize (lg_sl ([.ref r0, .int a1]) ++ List.replicate (4 - (lg_sl ([.ref r0, .int a1])).length) Slot.unset).toArray = ls at hl ⊢
  have hl : lv_has ls 4 [(0, .ref r0), (1, .int a1)] := hl
  generalize hR : (headSpec (jw yX11_give cX11_give 4 (some .int)) ({ frames := 31, cells := LC - H0.size, slots := LS - jTot H0, locals := 1871 })).room = R
  subst hH0
  have hh : jSt (dC, dI) B base G0 G0 EX11_give s.heap 0 0 [(r0, 13, 4, .ref bo), (bo, 2, 1, .int pc), (bo, 2, 0, .ref pa), (r0, 13, 3, .ref ou), (r0, 13, 0, .ref ta), (ta, 2, 1, .int pt), (ta, 2, 0, .ref pr), (r0, 13, 1, .ref fm), (fm, 4, 9, .int il), (fm, 4, 8, .int sg), (fm, 4, 11, .int sv), (fm, 4, 4, .int br), (fm, 4, 7, .int fi), (fm, 4, 2, .int ke), (fm, 4, 5, .int pl), (fm, 4, 6, .int to)] [] [(jFy, jYb dC dI G0), (jFs11, jSef dC dI G0), (jFl, jLs dC dI ca G0 3 none), (jFdo, jDcc dC dI ca G0 none ph)] s.heap [] := jSt.start hX hP0 jMc.nil hI0
  clear hX hP0
  have hkm1 : ((-1) : Int32).toInt = (-1) := by decide
  have hk0 : (0 : Int32).toInt = 0 := by decide
  have hk1 : (1 : Int32).toInt = 1 := by decide
  have hk255 : (255 : Int32).toInt = 255 := by decide
  have hly_2_0 := htw (u_lay RX0 TX0 0) (jWc_wsX00 _ (u_in_lay (by decide)))
  have hly_2_1 := htw (u_lay RX0 TX0 1) (jWc_wsX00 _ (u_in_lay (by decide)))
  have hly_4_4 := htw (u_lay RX2 TX2 4) (jWc_wsX20 _ (u_in_lay (by decide)))
  have hly_10_0 := htw (u_lay RX8 TX8 0) (jWc_wsX80 _ (u_in_lay (by decide)))
  have hly_13_0 := htw (u_lay RX11 TX11 0) (jWc_wsX110 _ (u_in_lay (by decide)))
  have hly_13_1 := htw (u_lay RX11 TX11 1) (jWc_wsX110 _ (u_in_lay (by decide)))
  have hly_13_3 := htw (u_lay RX11 TX11 3) (jWc_wsX110 _ (u_in_lay (by decide)))
  have hlk_14 := (htw (.fieldLink RX11 14 "ProofServer" "tape" "LProofServer$Bytes;") (jWr_1 _ (List.mem_of_getElem? (i := 15) rfl)))
  have hlk_92 := (htw (.fieldLink RX11 92 "ProofServer$Bytes" "count" "I") (jWr_15 _ (List.mem_of_getElem? (i := 18) rfl)))
  have hlk_98 := (htw (.fieldLink RX11 98 "ProofServer$Bytes" "row" "[B") (jWr_17 _ (List.mem_of_getElem? (i := 7) rfl)))
  have hlk_21 := (htw (.fieldLink RX11 21 "ProofServer" "frames" "LProofServer$Frames;") (jWr_1 _ (List.mem_of_getElem? (i := 19) rfl)))
  have hlk_102 := (htw (.fieldLink RX11 102 "ProofServer$Frames" "broken" "Z") (jWr_17 _ (List.mem_of_getElem? (i := 8) rfl)))
  have hlk_114 := (htw (.fieldLink RX11 114 "ProofServer$Request" "id" "LProofServer$Bytes;") (jWr_17 _ (List.mem_of_getElem? (i := 9) rfl)))
  have hlk_32 := (htw (.fieldLink RX11 32 "ProofServer" "output" "LProofServer$Bytes;") (jWr_2 _ (List.mem_of_getElem? (i := 0) rfl)))
  have hrg_a1 := jb_rng a1
  have hbs : base ≤ s.heap.size := Nat.le_of_lt (Nat.lt_of_le_of_lt (hh.ab hg_r0).1 (hh.ab hg_r0).2)
  have hRc : R.cells = LC - s.heap.size := by rw [← hR]; rfl
  have hRs : R.slots = LS - jTot s.heap := by rw [← hR]; rfl
  have hh_1 := hh.addI (jOl.ie (dC := dC) (dI := dI) (G0 := G0) (k := 2) (rs := [bo, ou, ta]) (H0 := s.heap) (F := [(2, 0), (2, 1)]) (C := RX0) (T := TX0) (N := 2) rfl (by decide) hh.2.2.2.2.1 (jOl.rf))
  clear hh
  refine lv_iload_n hx hb dX11_give_0 rfl (lv_at hl 1 rfl) ?_
  refine lv_if_lt (tgt := 15) hx hb dX11_give_1 (by decide) (fun c_2 => ?_) (fun c_2 => ?_)
  · skip
    have c_2' : a1.toInt < 0 := jb_lt (rfl) ((by decide)) c_2
    refine lv_iconst (v := (-1)) hx hb dX11_give_15 (by decide) ?_
    have hsz_3 := hh_1.2.2.2.2.2.1
    have htt_3 := hh_1.2.2.2.2.2.2.1
    refine W.room (fun hrc_3 hrs_3 => ?_)
    refine W.widen (k := LC - s.heap.size) (n := LS - jTot s.heap) (by omega) (by omega) ?_
    rw [hQ]
    exact W.iret (v := (-1)) hx hb hr (fun t ht hW => ⟨⟨(-1), (pc, pt, il, sg, sv, br, fi, ke, pl, to, pa, n_pa, ph, (ph + 200 * ((pt.toInt : Int).toNat + (ke.toInt : Int).toNat)), G0), rfl, by (try dsimp only); exact ⟨(by first | assumption | omega | rfl | fail), (by first | assumption | omega | rfl | fail), (by first | assumption | omega | rfl | fail), (by first | assumption | omega | rfl | fail), (by first | assumption | fail | omega), (by first | assumption | omega | rfl | fail), (by first | assumption | omega | rfl | fail), (by first | assumption | omega | rfl | fail), (by first | assumption | omega | rfl | fail), (by first | assumption | omega | rfl | fail), (by first | assumption | omega | rfl | fail), (by first | assumption | omega | rfl | fail), (by first | assumption | omega | rfl | fail), (by first | assumption | omega | rfl | fail), (by first | assumption | omega | rfl | fail), (by first | assumption | omega | rfl | fail), (by first | assumption | omega | rfl | fail), (by first | assumption | omega | rfl | fail), (by first | assumption | omega | rfl | fail), (by first | assumption | omega | rfl | fail), (by first | assumption | omega | rfl | fail), (by first | assumption | omega | rfl | fail), (by first | assumption | omega | rfl | fail)⟩, ⟨hh_1.ra (by first | (simp only; omega) | omega) (by first | (simp only; omega) | omega) (M1 := [(bo, 2, 1, .int pc), (ta, 2, 1, .int pt), (fm, 4, 9, .int il), (fm, 4, 8, .int sg), (fm, 4, 11, .int sv), (fm, 4, 4, .int br), (fm, 4, 7, .int fi), (fm, 4, 2, .int ke), (fm, 4, 5, .int pl), (fm, 4, 6, .int to), (bo, 2, 0, .ref pa)]) [1, 5, 8, 9, 10, 11, 12, 13, 14, 15, 2] rfl ht, hg_pa, jNk.rf, by rw [ht]; exact hh_1.iv 0 rfl, by rw [ht]; exact hh_1.2.2.2.2.2.2.2.2.sub (L1 := [(jFy, jYb dC dI G0), (jFs11, jSef dC dI G0), (jFl, jLs dC dI ca G0 3 none), (jFdo, jDcc dC dI ca G0 none ph)]) [1, 2, 3, 4] rfl⟩⟩, by rw [ht]; try exact hh_1.1.1, fun q h9 hq => by rw [ht]; try exact hh_1.1.2.1 q h9 hq⟩) hh_1.1.2.2 dX11_give_16
  · skip
    have c_2' : a1.toInt ≥ 0 := jb_lt_n (rfl) ((by decide)) c_2
    refine lv_iload_n hx hb dX11_give_4 rfl (lv_at hl 1 rfl) ?_
    refine lv_aload_n hx hb dX11_give_5 rfl (lv_at hl 0 rfl) ?_
    refine j7_read hx hb hown hK (C := RX11) (T := TX11) (N := 19) rfl hly_13_0 hlk_14 (hh_1.at 4 rfl) dX11_give_6 ?_
    refine j7_read hx hb hown hK (C := RX0) (T := TX0) (N := 2) rfl hly_2_1 hlk_92 (hh_1.at 5 rfl) dX11_give_9 ?_
    refine lv_icmp_le (tgt := 17) hx hb dX11_give_12 (by decide) (fun c_4 => ?_) (fun c_4 => ?_)
    · skip
      have c_4' : a1.toInt ≤ pt.toInt := jb_le (rfl) (rfl) c_4
      refine lv_iconst (v := 0) hx hb dX11_give_17 (by decide) ?_
      refine lv_istore_n (lv' := [(2, .int 0), (0, .ref r0), (1, .int a1)]) hx hb dX11_give_18 rfl hl (by decide) rfl (fun ls hl => ?_)
      have L19 : ∀ (N : Nat) (Gx_5 : jT) (zcx_5 : Nat) (zsx_5 : Nat) (v2_5 : Int32) (wc_5 : Int32) (wr_5 : Nat) (m_wr_5 : Nat) (wil_5 : Int32) (wsg_5 : Int32) (wsv_5 : Int32) (wbr_5 : Int32) (wfi_5 : Int32) (wke_5 : Int32) (wpl_5 : Int32) (wto_5 : Int32) (ph_5 : Nat) (H_5 : Heap) (locs_5 : List Loc), jSt (dC, dI) B base G0 Gx_5 EX11_give s.heap zcx_5 zsx_5 [(bo, 2, 1, .int wc_5), (bo, 2, 0, .ref wr_5), (fm, 4, 9, .int wil_5), (fm, 4, 8, .int wsg_5), (fm, 4, 11, .int wsv_5), (fm, 4, 4, .int wbr_5), (fm, 4, 7, .int wfi_5), (fm, 4, 2, .int wke_5), (fm, 4, 5, .int wpl_5), (fm, 4, 6, .int wto_5), (r0, 13, 4, .ref bo), (r0, 13, 3, .ref ou), (r0, 13, 0, .ref ta), (r0, 13, 1, .ref fm)] [] [([(2, 0), (2, 1)], jOl (dC, dI) G0 2 [bo, ou, ta] s.heap), (jFy, jYb dC dI Gx_5), (jFs11, jSef dC dI Gx_5), (jFl, jLs dC dI ca Gx_5 3 none), (jFdo, jDcc dC dI ca Gx_5 none ph_5)] H_5 locs_5 → (jNk [0, 1, 4, 5, 6, 7, 8, 9, 11, 12, 13, 14, 15, 16]) G0 Gx_5 → jLe G0 Gx_5 → Gx_5 wr_5 = some (196, m_wr_5) → (0 ≤ wc_5.toInt ∧ wc_5.toInt ≤ m_wr_5 ∧ n_pa ≤ m_wr_5 ∧ m_wr_5 ≤ 1048576 ∧ jPw m_wr_5 ∧ 0 ≤ v2_5.toInt ∧ v2_5.toInt ≤ a1.toInt ∧ zsx_5 + ph_5 + 200 * wke_5.toInt ≤ 2 * (m_wr_5 - n_pa) + ph + 200 * (v2_5.toInt + ke.toInt) ∧ 16 * zcx_5 + ph_5 + 200 * wke_5.toInt ≤ (m_wr_5 - n_pa) + ph + 200 * (v2_5.toInt + ke.toInt) ∧ 0 ≤ wsg_5.toInt + 4294967296 * (1 - wil_5.toInt) ∧ wsg_5.toInt ≤ 14 + 4294967296 * (1 - wil_5.toInt) ∧ 0 ≤ wil_5.toInt ∧ wil_5.toInt ≤ 1 ∧ 0 ≤ wsv_5.toInt ∧ wsv_5.toInt ≤ 3000 + 100000 * wbr_5.toInt ∧ 0 ≤ wbr_5.toInt ∧ wbr_5.toInt ≤ 1 ∧ 0 ≤ wfi_5.toInt ∧ wfi_5.toInt ≤ 3000 ∧ -1 ≤ wto_5.toInt ∧ wto_5.toInt ≤ 3000 ∧ 0 ≤ wke_5.toInt ∧ wke_5.toInt ≤ 200 + wfi_5.toInt ∧ (wbr_5.toInt = 1 ∨ (0 ≤ wpl_5.toInt ∧ wpl_5.toInt ≤ 6 ∧ wfi_5.toInt ≤ wke_5.toInt ∧ (wpl_5.toInt ≤ 4 ∨ (wfi_5.toInt + 1 ≤ wke_5.toInt ∧ 0 ≤ wto_5.toInt)) ∧ (wpl_5.toInt ≤ 5 ∨ wfi_5.toInt + 2 ≤ wke_5.toInt)))) → (a1.toInt - v2_5.toInt : Int) < N → ∀ ls : Array Slot, lv_has ls 4 [(0, .ref r0), (1, .int a1), (2, .int v2_5)] → W p l e R s m ([.ref r0, .int a1] : List Value).toArray below meth c H_5 locs_5 zcx_5 zsx_5 Q (F0 m 19 ls []) := by
        intro N
        induction N with
        | zero => intro Gx_5 zcx_5 zsx_5 v2_5 wc_5 wr_5 m_wr_5 wil_5 wsg_5 wsv_5 wbr_5 wfi_5 wke_5 wpl_5 wto_5 ph_5 H_5 locs_5 hh_5 hN_5 hle_5 hg_wr_5 hi_5 hm; exact absurd hm (by omega)
        | succ N L19 =>
          intro Gx_5 zcx_5 zsx_5 v2_5 wc_5 wr_5 m_wr_5 wil_5 wsg_5 wsv_5 wbr_5 wfi_5 wke_5 wpl_5 wto_5 ph_5 H_5 locs_5 hh_5 hN_5 hle_5 hg_wr_5 hi_5 hm_5 ls hl
          have hg_6 := hle_5 _ _ hg_r0
          have hg_7 := hle_5 _ _ hg_bo
          have hg_8 := hle_5 _ _ hg_ou
          have hg_9 := hle_5 _ _ hg_ta
          have hg_10 := hle_5 _ _ hg_fm
          obtain ⟨hi_5_0, hi_5_1, hi_5_2, hi_5_3, hi_5_4, hi_5_5, hi_5_6, hi_5_7, hi_5_8, hi_5_9, hi_5_10, hi_5_11, hi_5_12, hi_5_13, hi_5_14, hi_5_15, hi_5_16, hi_5_17, hi_5_18, hi_5_19, hi_5_20, hi_5_21, hi_5_22, hi_5_23⟩ := hi_5
          refine lv_iload_n hx hb dX11_give_19 rfl (lv_at hl 2 rfl) ?_
          refine lv_iload_n hx hb dX11_give_20 rfl (lv_at hl 1 rfl) ?_
          refine lv_icmp_ge (tgt := 107) hx hb dX11_give_21 (by decide) (fun c_11 => ?_) (fun c_11 => ?_)
          · skip
            have c_11' : v2_5.toInt ≥ a1.toInt := jb_ge (rfl) (rfl) c_11
            refine lv_aload_n hx hb dX11_give_107 rfl (lv_at hl 0 rfl) ?_
            refine j7_read hx hb hown hK (C := RX11) (T := TX11) (N := 19) rfl hly_13_0 hlk_14 (hh_5.at 12 rfl) dX11_give_108 ?_
            refine lv_iconst (v := 0) hx hb dX11_give_111 (by decide) ?_
            have hd_13 := hh_5.iv 0 rfl
            have hd_14 := hh_5.iv 1 rfl
            have hh_15 := hh_5.sub (L1 := [(bo, 2, 1, .int wc_5), (bo, 2, 0, .ref wr_5), (fm, 4, 9, .int wil_5), (fm, 4, 8, .int wsg_5), (fm, 4, 11, .int wsv_5), (fm, 4, 4, .int wbr_5), (fm, 4, 7, .int wfi_5), (fm, 4, 2, .int wke_5), (fm, 4, 5, .int wpl_5), (fm, 4, 6, .int wto_5), (r0, 13, 4, .ref bo), (r0, 13, 3, .ref ou), (r0, 13, 0, .ref ta), (r0, 13, 1, .ref fm)]) [0, 1, 2, 3, 4, 5, 6, 7, 8, 9, 10, 11, 12, 13] rfl (M1 := []) [] rfl (I1 := [(jFs11, jSef dC dI Gx_5), (jFl, jLs dC dI ca Gx_5 3 none), (jFdo, jDcc dC dI ca Gx_5 none ph_5)]) [2, 3, 4] rfl
            clear hh_5
            refine j7_putX hx hb hown hK hh_15 hB hAp hB2 (C := RX0) (T := TX0) (N := 2) rfl (by decide) hg_9 (i := 1) (by decide) hly_2_1 rfl hlk_92 rfl (ty := .int) (v := .int 0) (by decide +kernel) rfl rfl (⟨_, rfl, by omega, by omega, by omega⟩) rfl (L1 := [(bo, 2, 0, .ref wr_5), (fm, 4, 9, .int wil_5), (fm, 4, 8, .int wsg_5), (fm, 4, 11, .int wsv_5), (fm, 4, 4, .int wbr_5), (fm, 4, 7, .int wfi_5), (fm, 4, 2, .int wke_5), (fm, 4, 5, .int wpl_5), (fm, 4, 6, .int wto_5), (r0, 13, 4, .ref bo), (r0, 13, 3, .ref ou), (r0, 13, 0, .ref ta), (r0, 13, 1, .ref fm)]) [1, 2, 3, 4, 5, 6, 7, 8, 9, 10, 11, 12, 13] rfl rfl rfl dX11_give_112 (fun H_12 locs_12 hr_12 hh_12 => ?_)
            clear hh_15
            have hd_14n := jYb.put hd_14 hr_12 hg_9 (fun h9 => by cases h9)
            have hd_13n := jOl.put hd_13 hr_12 (by simp)
            have hh_16 := hh_12.addI (jYb.ie hd_14n)
            clear hh_12
            have hh_17 := hh_16.addI (jOl.ie (dC := dC) (dI := dI) (G0 := G0) (k := 2) (rs := [bo, ou, ta]) (H0 := s.heap) (F := [(2, 0), (2, 1)]) (C := RX0) (T := TX0) (N := 2) rfl (by decide) hh_16.2.2.2.2.1 (hd_13n))
            clear hh_16
            clear hd_13 hd_13n hd_14 hd_14n hr_12
            refine lv_aload_n hx hb dX11_give_115 rfl (lv_at hl 0 rfl) ?_
            refine j7_read hx hb hown hK (C := RX11) (T := TX11) (N := 19) rfl hly_13_3 hlk_32 (hh_17.at 11 rfl) dX11_give_116 ?_
            obtain ⟨v_18, hv_18, hh_19⟩ := hh_17.pin (C := RX0) (T := TX0) (N := 2) hB2 rfl (by decide) hg_8 (i := 1) (by decide) rfl
            clear hh_17
            obtain ⟨count_20, rfl, hlocount_20, hhicount_20, hfxcount_20⟩ := hv_18
            refine j7_read hx hb hown hK (C := RX0) (T := TX0) (N := 2) rfl hly_2_1 hlk_92 (hh_19.at 0 rfl) dX11_give_119 ?_
            have hsz_21 := hh_19.2.2.2.2.2.1
            have htt_21 := hh_19.2.2.2.2.2.2.1
            refine W.room (fun hrc_21 hrs_21 => ?_)
            refine W.widen (k := LC - s.heap.size) (n := LS - jTot s.heap) (by omega) (by omega) ?_
            rw [hQ]
            obtain ⟨v_22, hv_22, hh_23⟩ := hh_19.pin (C := RX0) (T := TX0) (N := 2) hB2 rfl (by decide) hg_7 (i := 1) (by decide) rfl
            obtain ⟨count_24, rfl, hlocount_24, hhicount_24, hfxcount_24⟩ := hv_22
            exact W.iret (v := count_20) hx hb hr (fun t ht hW => ⟨⟨count_20, (count_24, 0, wil_5, wsg_5, wsv_5, wbr_5, wfi_5, wke_5, wpl_5, wto_5, wr_5, m_wr_5, ph_5, (ph_5 + 200 * ((0 : Int).toNat + (wke_5.toInt : Int).toNat)), Gx_5), rfl, by (try dsimp only); exact ⟨(by first | assumption | omega | rfl | fail), (by first | assumption | omega | rfl | fail), (by first | assumption | omega | rfl | fail), (by first | assumption | omega | rfl | fail), (by first | assumption | fail | omega), (by first | assumption | omega | rfl | fail), (by first | assumption | omega | rfl | fail), (by first | assumption | omega | rfl | fail), (by first | assumption | omega | rfl | fail), (by first | assumption | omega | rfl | fail), (by first | assumption | omega | rfl | fail), (by first | assumption | omega | rfl | fail), (by first | assumption | omega | rfl | fail), (by first | assumption | omega | rfl | fail), (by first | assumption | omega | rfl | fail), (by first | assumption | omega | rfl | fail), (by first | assumption | omega | rfl | fail), (by first | assumption | omega | rfl | fail), (by first | assumption | omega | rfl | fail), (by first | assumption | omega | rfl | fail), (by first | assumption | omega | rfl | fail), (by first | assumption | omega | rfl | fail), (by first | assumption | omega | rfl | fail)⟩, ⟨hh_23.ra (by first | (simp only; omega) | omega) (by first | (simp only; omega) | omega) (M1 := [(bo, 2, 1, .int count_24), (ta, 2, 1, .int 0), (fm, 4, 9, .int wil_5), (fm, 4, 8, .int wsg_5), (fm, 4, 11, .int wsv_5), (fm, 4, 4, .int wbr_5), (fm, 4, 7, .int wfi_5), (fm, 4, 2, .int wke_5), (fm, 4, 5, .int wpl_5), (fm, 4, 6, .int wto_5), (bo, 2, 0, .ref wr_5)]) [0, 2, 4, 5, 6, 7, 8, 9, 10, 11, 3] rfl ht, hg_wr_5, hN_5, by rw [ht]; exact hh_23.iv 0 rfl, by rw [ht]; exact hh_23.2.2.2.2.2.2.2.2.sub (L1 := [(jFy, jYb dC dI Gx_5), (jFs11, jSef dC dI Gx_5), (jFl, jLs dC dI ca Gx_5 3 none), (jFdo, jDcc dC dI ca Gx_5 none ph_5)]) [1, 2, 3, 4] rfl⟩⟩, by rw [ht]; try exact hh_23.1.1, fun q h9 hq => by rw [ht]; try exact hh_23.1.2.1 q h9 hq⟩) hh_23.1.2.2 dX11_give_122
          · skip
            have c_11' : v2_5.toInt < a1.toInt := jb_ge_n (rfl) (rfl) c_11
            refine lv_iload_n hx hb dX11_give_24 rfl (lv_at hl 2 rfl) ?_
            refine lv_aload_n hx hb dX11_give_25 rfl (lv_at hl 0 rfl) ?_
            refine j7_read hx hb hown hK (C := RX11) (T := TX11) (N := 19) rfl hly_13_0 hlk_14 (hh_5.at 12 rfl) dX11_give_26 ?_
            obtain ⟨v_25, hv_25, hh_26⟩ := hh_5.pin (C := RX0) (T := TX0) (N := 2) hB2 rfl (by decide) hg_9 (i := 0) (by decide) rfl
            clear hh_5
            obtain ⟨row_27, nrow_27, rfl, hg_row_27, hlorow_27, hhirow_27, hpwrow_27, hfxrow_27⟩ := hv_25
            refine j7_read hx hb hown hK (C := RX0) (T := TX0) (N := 2) rfl hly_2_0 hlk_98 (hh_26.at 0 rfl) dX11_give_29 ?_
            refine j7_len hx hb hK hh_26 hB196 0 rfl (by decide) hg_row_27 (by omega) dX11_give_32 (fun z_28 hz_28 => ?_)
            refine lv_icmp_ge (tgt := 107) hx hb dX11_give_33 (by decide) (fun c_29 => ?_) (fun c_29 => ?_)
            · skip
              have c_29' : v2_5.toInt ≥ z_28.toInt := jb_ge (rfl) (rfl) c_29
              refine lv_aload_n hx hb dX11_give_107 rfl (lv_at hl 0 rfl) ?_
              refine j7_read hx hb hown hK (C := RX11) (T := TX11) (N := 19) rfl hly_13_0 hlk_14 (hh_26.at 13 rfl) dX11_give_108 ?_
              refine lv_iconst (v := 0) hx hb dX11_give_111 (by decide) ?_
              have hd_31 := hh_26.iv 0 rfl
              have hd_32 := hh_26.iv 1 rfl
              have hh_33 := hh_26.sub (L1 := [(ta, 2, 0, .ref row_27), (bo, 2, 1, .int wc_5), (bo, 2, 0, .ref wr_5), (fm, 4, 9, .int wil_5), (fm, 4, 8, .int wsg_5), (fm, 4, 11, .int wsv_5), (fm, 4, 4, .int wbr_5), (fm, 4, 7, .int wfi_5), (fm, 4, 2, .int wke_5), (fm, 4, 5, .int wpl_5), (fm, 4, 6, .int wto_5), (r0, 13, 4, .ref bo), (r0, 13, 3, .ref ou), (r0, 13, 0, .ref ta), (r0, 13, 1, .ref fm)]) [0, 1, 2, 3, 4, 5, 6, 7, 8, 9, 10, 11, 12, 13, 14] rfl (M1 := []) [] rfl (I1 := [(jFs11, jSef dC dI Gx_5), (jFl, jLs dC dI ca Gx_5 3 none), (jFdo, jDcc dC dI ca Gx_5 none ph_5)]) [2, 3, 4] rfl
              clear hh_26
              refine j7_putX hx hb hown hK hh_33 hB hAp hB2 (C := RX0) (T := TX0) (N := 2) rfl (by decide) hg_9 (i := 1) (by decide) hly_2_1 rfl hlk_92 rfl (ty := .int) (v := .int 0) (by decide +kernel) rfl rfl (⟨_, rfl, by omega, by omega, by omega⟩) rfl (L1 := [(ta, 2, 0, .ref row_27), (bo, 2, 0, .ref wr_5), (fm, 4, 9, .int wil_5), (fm, 4, 8, .int wsg_5), (fm, 4, 11, .int wsv_5), (fm, 4, 4, .int wbr_5), (fm, 4, 7, .int wfi_5), (fm, 4, 2, .int wke_5), (fm, 4, 5, .int wpl_5), (fm, 4, 6, .int wto_5), (r0, 13, 4, .ref bo), (r0, 13, 3, .ref ou), (r0, 13, 0, .ref ta), (r0, 13, 1, .ref fm)]) [0, 2, 3, 4, 5, 6, 7, 8, 9, 10, 11, 12, 13, 14] rfl rfl rfl dX11_give_112 (fun H_30 locs_30 hr_30 hh_30 => ?_)
              clear hh_33
              have hd_32n := jYb.put hd_32 hr_30 hg_9 (fun h9 => by cases h9)
              have hd_31n := jOl.put hd_31 hr_30 (by simp)
              have hh_34 := hh_30.addI (jYb.ie hd_32n)
              clear hh_30
              have hh_35 := hh_34.addI (jOl.ie (dC := dC) (dI := dI) (G0 := G0) (k := 2) (rs := [bo, ou, ta]) (H0 := s.heap) (F := [(2, 0), (2, 1)]) (C := RX0) (T := TX0) (N := 2) rfl (by decide) hh_34.2.2.2.2.1 (hd_31n))
              clear hh_34
              clear hd_31 hd_31n hd_32 hd_32n hr_30
              refine lv_aload_n hx hb dX11_give_115 rfl (lv_at hl 0 rfl) ?_
              refine j7_read hx hb hown hK (C := RX11) (T := TX11) (N := 19) rfl hly_13_3 hlk_32 (hh_35.at 12 rfl) dX11_give_116 ?_
              obtain ⟨v_36, hv_36, hh_37⟩ := hh_35.pin (C := RX0) (T := TX0) (N := 2) hB2 rfl (by decide) hg_8 (i := 1) (by decide) rfl
              clear hh_35
              obtain ⟨count_38, rfl, hlocount_38, hhicount_38, hfxcount_38⟩ := hv_36
              refine j7_read hx hb hown hK (C := RX0) (T := TX0) (N := 2) rfl hly_2_1 hlk_92 (hh_37.at 0 rfl) dX11_give_119 ?_
              have hsz_39 := hh_37.2.2.2.2.2.1
              have htt_39 := hh_37.2.2.2.2.2.2.1
              refine W.room (fun hrc_39 hrs_39 => ?_)
              refine W.widen (k := LC - s.heap.size) (n := LS - jTot s.heap) (by omega) (by omega) ?_
              rw [hQ]
              obtain ⟨v_40, hv_40, hh_41⟩ := hh_37.pin (C := RX0) (T := TX0) (N := 2) hB2 rfl (by decide) hg_7 (i := 1) (by decide) rfl
              obtain ⟨count_42, rfl, hlocount_42, hhicount_42, hfxcount_42⟩ := hv_40
              exact W.iret (v := count_38) hx hb hr (fun t ht hW => ⟨⟨count_38, (count_42, 0, wil_5, wsg_5, wsv_5, wbr_5, wfi_5, wke_5, wpl_5, wto_5, wr_5, m_wr_5, ph_5, (ph_5 + 200 * ((0 : Int).toNat + (wke_5.toInt : Int).toNat)), Gx_5), rfl, by (try dsimp only); exact ⟨(by first | assumption | omega | rfl | fail), (by first | assumption | omega | rfl | fail), (by first | assumption | omega | rfl | fail), (by first | assumption | omega | rfl | fail), (by first | assumption | fail | omega), (by first | assumption | omega | rfl | fail), (by first | assumption | omega | rfl | fail), (by first | assumption | omega | rfl | fail), (by first | assumption | omega | rfl | fail), (by first | assumption | omega | rfl | fail), (by first | assumption | omega | rfl | fail), (by first | assumption | omega | rfl | fail), (by first | assumption | omega | rfl | fail), (by first | assumption | omega | rfl | fail), (by first | assumption | omega | rfl | fail), (by first | assumption | omega | rfl | fail), (by first | assumption | omega | rfl | fail), (by first | assumption | omega | rfl | fail), (by first | assumption | omega | rfl | fail), (by first | assumption | omega | rfl | fail), (by first | assumption | omega | rfl | fail), (by first | assumption | omega | rfl | fail), (by first | assumption | omega | rfl | fail)⟩, ⟨hh_41.ra (by first | (simp only; omega) | omega) (by first | (simp only; omega) | omega) (M1 := [(bo, 2, 1, .int count_42), (ta, 2, 1, .int 0), (fm, 4, 9, .int wil_5), (fm, 4, 8, .int wsg_5), (fm, 4, 11, .int wsv_5), (fm, 4, 4, .int wbr_5), (fm, 4, 7, .int wfi_5), (fm, 4, 2, .int wke_5), (fm, 4, 5, .int wpl_5), (fm, 4, 6, .int wto_5), (bo, 2, 0, .ref wr_5)]) [0, 2, 5, 6, 7, 8, 9, 10, 11, 12, 4] rfl ht, hg_wr_5, hN_5, by rw [ht]; exact hh_41.iv 0 rfl, by rw [ht]; exact hh_41.2.2.2.2.2.2.2.2.sub (L1 := [(jFy, jYb dC dI Gx_5), (jFs11, jSef dC dI Gx_5), (jFl, jLs dC dI ca Gx_5 3 none), (jFdo, jDcc dC dI ca Gx_5 none ph_5)]) [1, 2, 3, 4] rfl⟩⟩, by rw [ht]; try exact hh_41.1.1, fun q h9 hq => by rw [ht]; try exact hh_41.1.2.1 q h9 hq⟩) hh_41.1.2.2 dX11_give_122
            · skip
              have c_29' : v2_5.toInt < z_28.toInt := jb_ge_n (rfl) (rfl) c_29
              refine lv_aload_n hx hb dX11_give_36 rfl (lv_at hl 0 rfl) ?_
              refine j7_read hx hb hown hK (C := RX11) (T := TX11) (N := 19) rfl hly_13_1 hlk_21 (hh_26.at 14 rfl) dX11_give_37 ?_
              refine j7_read hx hb hown hK (C := RX2) (T := TX2) (N := 12) rfl hly_4_4 hlk_102 (hh_26.at 6 rfl) dX11_give_40 ?_
              refine lv_if_ne (tgt := 107) hx hb dX11_give_43 (by decide) (fun c_43 => ?_) (fun c_43 => ?_)
              · skip
                have c_43' : wbr_5.toInt ≠ 0 := jb_ne (rfl) ((by decide)) c_43
                refine lv_aload_n hx hb dX11_give_107 rfl (lv_at hl 0 rfl) ?_
                refine j7_read hx hb hown hK (C := RX11) (T := TX11) (N := 19) rfl hly_13_0 hlk_14 (hh_26.at 13 rfl) dX11_give_108 ?_
                refine lv_iconst (v := 0) hx hb dX11_give_111 (by decide) ?_
                have hd_45 := hh_26.iv 0 rfl
                have hd_46 := hh_26.iv 1 rfl
                have hh_47 := hh_26.sub (L1 := [(ta, 2, 0, .ref row_27), (bo, 2, 1, .int wc_5), (bo, 2, 0, .ref wr_5), (fm, 4, 9, .int wil_5), (fm, 4, 8, .int wsg_5), (fm, 4, 11, .int wsv_5), (fm, 4, 4, .int wbr_5), (fm, 4, 7, .int wfi_5), (fm, 4, 2, .int wke_5), (fm, 4, 5, .int wpl_5), (fm, 4, 6, .int wto_5), (r0, 13, 4, .ref bo), (r0, 13, 3, .ref ou), (r0, 13, 0, .ref ta), (r0, 13, 1, .ref fm)]) [0, 1, 2, 3, 4, 5, 6, 7, 8, 9, 10, 11, 12, 13, 14] rfl (M1 := []) [] rfl (I1 := [(jFs11, jSef dC dI Gx_5), (jFl, jLs dC dI ca Gx_5 3 none), (jFdo, jDcc dC dI ca Gx_5 none ph_5)]) [2, 3, 4] rfl
                clear hh_26
                refine j7_putX hx hb hown hK hh_47 hB hAp hB2 (C := RX0) (T := TX0) (N := 2) rfl (by decide) hg_9 (i := 1) (by decide) hly_2_1 rfl hlk_92 rfl (ty := .int) (v := .int 0) (by decide +kernel) rfl rfl (⟨_, rfl, by omega, by omega, by omega⟩) rfl (L1 := [(ta, 2, 0, .ref row_27), (bo, 2, 0, .ref wr_5), (fm, 4, 9, .int wil_5), (fm, 4, 8, .int wsg_5), (fm, 4, 11, .int wsv_5), (fm, 4, 4, .int wbr_5), (fm, 4, 7, .int wfi_5), (fm, 4, 2, .int wke_5), (fm, 4, 5, .int wpl_5), (fm, 4, 6, .int wto_5), (r0, 13, 4, .ref bo), (r0, 13, 3, .ref ou), (r0, 13, 0, .ref ta), (r0, 13, 1, .ref fm)]) [0, 2, 3, 4, 5, 6, 7, 8, 9, 10, 11, 12, 13, 14] rfl rfl rfl dX11_give_112 (fun H_44 locs_44 hr_44 hh_44 => ?_)
                clear hh_47
                have hd_46n := jYb.put hd_46 hr_44 hg_9 (fun h9 => by cases h9)
                have hd_45n := jOl.put hd_45 hr_44 (by simp)
                have hh_48 := hh_44.addI (jYb.ie hd_46n)
                clear hh_44
                have hh_49 := hh_48.addI (jOl.ie (dC := dC) (dI := dI) (G0 := G0) (k := 2) (rs := [bo, ou, ta]) (H0 := s.heap) (F := [(2, 0), (2, 1)]) (C := RX0) (T := TX0) (N := 2) rfl (by decide) hh_48.2.2.2.2.1 (hd_45n))
                clear hh_48
                clear hd_45 hd_45n hd_46 hd_46n hr_44
                refine lv_aload_n hx hb dX11_give_115 rfl (lv_at hl 0 rfl) ?_
                refine j7_read hx hb hown hK (C := RX11) (T := TX11) (N := 19) rfl hly_13_3 hlk_32 (hh_49.at 12 rfl) dX11_give_116 ?_
                obtain ⟨v_50, hv_50, hh_51⟩ := hh_49.pin (C := RX0) (T := TX0) (N := 2) hB2 rfl (by decide) hg_8 (i := 1) (by decide) rfl
                clear hh_49
                obtain ⟨count_52, rfl, hlocount_52, hhicount_52, hfxcount_52⟩ := hv_50
                refine j7_read hx hb hown hK (C := RX0) (T := TX0) (N := 2) rfl hly_2_1 hlk_92 (hh_51.at 0 rfl) dX11_give_119 ?_
                have hsz_53 := hh_51.2.2.2.2.2.1
                have htt_53 := hh_51.2.2.2.2.2.2.1
                refine W.room (fun hrc_53 hrs_53 => ?_)
                refine W.widen (k := LC - s.heap.size) (n := LS - jTot s.heap) (by omega) (by omega) ?_
                rw [hQ]
                obtain ⟨v_54, hv_54, hh_55⟩ := hh_51.pin (C := RX0) (T := TX0) (N := 2) hB2 rfl (by decide) hg_7 (i := 1) (by decide) rfl
                obtain ⟨count_56, rfl, hlocount_56, hhicount_56, hfxcount_56⟩ := hv_54
                exact W.iret (v := count_52) hx hb hr (fun t ht hW => ⟨⟨count_52, (count_56, 0, wil_5, wsg_5, wsv_5, wbr_5, wfi_5, wke_5, wpl_5, wto_5, wr_5, m_wr_5, ph_5, (ph_5 + 200 * ((0 : Int).toNat + (wke_5.toInt : Int).toNat)), Gx_5), rfl, by (try dsimp only); exact ⟨(by first | assumption | omega | rfl | fail), (by first | assumption | omega | rfl | fail), (by first | assumption | omega | rfl | fail), (by first | assumption | omega | rfl | fail), (by first | assumption | fail | omega), (by first | assumption | omega | rfl | fail), (by first | assumption | omega | rfl | fail), (by first | assumption | omega | rfl | fail), (by first | assumption | omega | rfl | fail), (by first | assumption | omega | rfl | fail), (by first | assumption | omega | rfl | fail), (by first | assumption | omega | rfl | fail), (by first | assumption | omega | rfl | fail), (by first | assumption | omega | rfl | fail), (by first | assumption | omega | rfl | fail), (by first | assumption | omega | rfl | fail), (by first | assumption | omega | rfl | fail), (by first | assumption | omega | rfl | fail), (by first | assumption | omega | rfl | fail), (by first | assumption | omega | rfl | fail), (by first | assumption | omega | rfl | fail), (by first | assumption | omega | rfl | fail), (by first | assumption | omega | rfl | fail)⟩, ⟨hh_55.ra (by first | (simp only; omega) | omega) (by first | (simp only; omega) | omega) (M1 := [(bo, 2, 1, .int count_56), (ta, 2, 1, .int 0), (fm, 4, 9, .int wil_5), (fm, 4, 8, .int wsg_5), (fm, 4, 11, .int wsv_5), (fm, 4, 4, .int wbr_5), (fm, 4, 7, .int wfi_5), (fm, 4, 2, .int wke_5), (fm, 4, 5, .int wpl_5), (fm, 4, 6, .int wto_5), (bo, 2, 0, .ref wr_5)]) [0, 2, 5, 6, 7, 8, 9, 10, 11, 12, 4] rfl ht, hg_wr_5, hN_5, by rw [ht]; exact hh_55.iv 0 rfl, by rw [ht]; exact hh_55.2.2.2.2.2.2.2.2.sub (L1 := [(jFy, jYb dC dI Gx_5), (jFs11, jSef dC dI Gx_5), (jFl, jLs dC dI ca Gx_5 3 none), (jFdo, jDcc dC dI ca Gx_5 none ph_5)]) [1, 2, 3, 4] rfl⟩⟩, by rw [ht]; try exact hh_55.1.1, fun q h9 hq => by rw [ht]; try exact hh_55.1.2.1 q h9 hq⟩) hh_55.1.2.2 dX11_give_122
              · skip
                have c_43' : wbr_5.toInt = 0 := jb_ne_n (rfl) ((by decide)) c_43
                refine lv_aload_n hx hb dX11_give_46 rfl (lv_at hl 0 rfl) ?_
                refine j7_read hx hb hown hK (C := RX11) (T := TX11) (N := 19) rfl hly_13_1 hlk_21 (hh_26.at 14 rfl) dX11_give_47 ?_
                refine lv_aload_n hx hb dX11_give_50 rfl (lv_at hl 0 rfl) ?_
                refine j7_read hx hb hown hK (C := RX11) (T := TX11) (N := 19) rfl hly_13_0 hlk_14 (hh_26.at 13 rfl) dX11_give_51 ?_
                refine j7_read hx hb hown hK (C := RX0) (T := TX0) (N := 2) rfl hly_2_0 hlk_98 (hh_26.at 0 rfl) dX11_give_54 ?_
                refine lv_iload_n hx hb dX11_give_57 rfl (lv_at hl 2 rfl) ?_
                refine j7_bald hx hb hK hh_26 hB196 0 rfl (by decide) hg_row_27 (x := v2_5.toInt) (rfl) (by omega) dX11_give_58 (fun z_57 (hz_57 : jBf (v2_5.toInt).toNat z_57) => ?_)
                refine lv_sipush (v := 255) hx hb dX11_give_59 (by decide) ?_
                refine lv_iand hx hb dX11_give_62 ?_
                refine lv_topi (fun z_58 ez_58 => ?_)
                have hz_58 : 0 ≤ z_58.toInt ∧ z_58.toInt ≤ 255 := by rw [ez_58]; exact jb_and z_57 (m := 255) (k := 8) (by decide) (by decide)
                have hsz_59 := hh_26.2.2.2.2.2.1
                have htt_59 := hh_26.2.2.2.2.2.2.1
                refine W.room (fun hrc_59 hrs_59 => ?_)
                refine va_calli (A0 := jA base) (H0 := s.heap) (va_runV (As := [.int z_58]) (rest := []) ⟨hx, hb, hml, hown, hts⟩ (uX2_acceptA l dC dI ca base B hB hAp hB4 hB100 Gx_5 H_5 fm z_58 wil_5 wsg_5 wsv_5 wbr_5 wfi_5 wke_5 wpl_5 wto_5) (cwV 1 hts (jgV (jWr_17 _ (List.mem_of_getElem? (i := 10) rfl)) (jWr_17 _ (List.mem_of_getElem? (i := 11) rfl)) (jWr_17 _ (List.mem_of_getElem? (i := 12) rfl)) (jWr_1 _ (List.mem_of_getElem? (i := 18) rfl)) (jWr_17 _ (List.mem_of_getElem? (i := 13) rfl))) rfl rfl rfl (by decide +kernel) ⟨by rw [← hR]; exact Nat.le_of_ble_eq_true rfl, by rw [← hR]; exact Nat.le_of_ble_eq_true rfl⟩) ⟨fun a U g mk q => by obtain ⟨q0, q1, q2, qK, q10, q11, q12⟩ := q; exact ⟨q0, q1, q2, jG.calling g mk a qK, q10, q11, q12⟩, hh_26.recv (C := RX2) (T := TX2) (N := 12) hB4 rfl (by decide) hg_10 hK, fun U hU hW => ⟨rfl, hU, hh_26.2.1, hG.step hW hU hh_26.1, hg_10, (hh_26.2.2.1.sub (L1 := [(fm, 4, 9, .int wil_5), (fm, 4, 8, .int wsg_5), (fm, 4, 11, .int wsv_5), (fm, 4, 4, .int wbr_5), (fm, 4, 7, .int wfi_5), (fm, 4, 2, .int wke_5), (fm, 4, 5, .int wpl_5), (fm, 4, 6, .int wto_5)]) [3, 4, 5, 6, 7, 8, 9, 10] rfl), ⟨(by first | assumption | omega | rfl | fail), (by first | assumption | omega | rfl | fail), (by first | assumption | omega | rfl | fail), (by first | assumption | omega | rfl | fail), (by first | assumption | omega | rfl | fail), (by first | assumption | omega | rfl | fail), (by first | assumption | omega | rfl | fail), (by first | assumption | omega | rfl | fail), (by first | assumption | omega | rfl | fail), (by first | assumption | omega | rfl | fail), (by first | assumption | omega | rfl | fail), (by first | assumption | omega | rfl | fail), (by first | assumption | omega | rfl | fail), (by first | assumption | omega | rfl | fail), (by first | assumption | omega | rfl | fail)⟩⟩⟩ rfl rfl hl.1 rfl (lv_room (Nat.le_of_ble_eq_true rfl)) dX11_give_63 ⟨by rw [hRc]; show _ + 0 ≤ _; omega, by rw [hRs]; show _ + 0 ≤ _; omega⟩) hh_26.1 (fun q _ h => h) (fun q h => h) (fun r_60 u_59 t_59 H_59 locs_59 ht_59 hvm_59 hr_60 hb_59 hz_59 hk_59 hS_59 => ?_)
                obtain ⟨ql_59, qg_59, qv_59, qb_59, qf_59, qk_59, qp_59, qo_59, qn_59⟩ := u_59
                rw [ht_59] at hb_59
                obtain ⟨hb_591, hb_592, hb_593, hb_594, hb_595⟩ := hb_59
                have hh_59 : jSt (dC, dI) B base G0 Gx_5 EX11_give s.heap zcx_5 zsx_5 [(fm, 4, 9, .int ql_59), (fm, 4, 8, .int qg_59), (fm, 4, 11, .int qv_59), (fm, 4, 4, .int qb_59), (fm, 4, 7, .int qf_59), (fm, 4, 2, .int qk_59), (fm, 4, 5, .int qp_59), (fm, 4, 6, .int qo_59), (fm, 4, 1, .int qn_59), (ta, 2, 0, .ref row_27), (bo, 2, 1, .int wc_5), (bo, 2, 0, .ref wr_5), (r0, 13, 4, .ref bo), (r0, 13, 3, .ref ou), (r0, 13, 0, .ref ta), (r0, 13, 1, .ref fm)] [] [([(2, 0), (2, 1)], jOl (dC, dI) G0 2 [bo, ou, ta] s.heap), (jFy, jYb dC dI Gx_5), (jFs11, jSef dC dI Gx_5), (jFl, jLs dC dI ca Gx_5 3 none), (jFdo, jDcc dC dI ca Gx_5 none ph_5)] H_59 locs_59 := ((hh_26.call hb_591 hb_592 hb_593 hb_594 hS_59 rfl (L1 := [(ta, 2, 0, .ref row_27), (bo, 2, 1, .int wc_5), (bo, 2, 0, .ref wr_5), (r0, 13, 4, .ref bo), (r0, 13, 3, .ref ou), (r0, 13, 0, .ref ta), (r0, 13, 1, .ref fm)]) [0, 1, 2, 11, 12, 13, 14] rfl rfl (M1 := []) [] rfl rfl (I1 := [([(2, 0), (2, 1)], jOl (dC, dI) G0 2 [bo, ou, ta] s.heap), (jFy, jYb dC dI Gx_5), (jFs11, jSef dC dI Gx_5), (jFl, jLs dC dI ca Gx_5 3 none), (jFdo, jDcc dC dI ca Gx_5 none ph_5)]) [0, 1, 2, 3, 4] rfl rfl).more hb_595)
                clear hh_26 ht_59 hvm_59 hz_59 hk_59 hS_59 hb_591 hb_592 hb_593 hb_594 hb_595
                try simp only at hr_60
                obtain ⟨hr_60b, hr_60p⟩ := hr_60
                obtain ⟨hr_60p_0, hr_60p_1, hr_60p_2, hr_60p_3, hr_60p_4, hr_60p_5, hr_60p_6, hr_60p_7, hr_60p_8, hr_60p_9, hr_60p_10, hr_60p_11, hr_60p_12, hr_60p_13, hr_60p_14, hr_60p_15, hr_60p_16⟩ := hr_60p
                have hr_60' := jb_01 hr_60b
                refine lv_if_eq (tgt := 101) hx hb dX11_give_66 (by decide) (fun c_61 => ?_) (fun c_61 => ?_)
                · skip
                  have c_61' : r_60.toInt = 0 := jb_eq (rfl) ((by decide)) c_61
                  first | (have hr_60p_14q := hr_60p_14.resolve_left (by omega); clear hr_60p_14) | (have hr_60p_14q := hr_60p_14.resolve_right (by omega); clear hr_60p_14) | skip
                  first | (have hr_60p_16q := hr_60p_16.resolve_left (by omega); clear hr_60p_16) | (have hr_60p_16q := hr_60p_16.resolve_right (by omega); clear hr_60p_16) | skip
                  obtain ⟨z_62, ez_62⟩ : ∃ y : Int32, y = v2_5 + 1 := ⟨_, rfl⟩
                  refine lv_iinc (v := z_62) (lv' := [(2, .int z_62), (0, .ref r0), (1, .int a1)]) hx hb dX11_give_101 hl (k := 2) rfl (by rw [ez_62]; rfl) (by decide) rfl (fun ls hl => ?_)
                  have hz_62 : z_62.toInt = v2_5.toInt + 1 := by rw [ez_62]; exact jb_iadd2 (rfl) (by decide) (by omega)
                  refine lv_goto (tgt := 19) hx hb dX11_give_104 (by decide) ?_
                  refine W.tight (c2 := zcx_5) (n2 := zsx_5) hh_59.2.2.2.2.2.1 hh_59.2.2.2.2.2.2.1 ?_
                  exact L19 Gx_5 zcx_5 zsx_5 z_62 wc_5 wr_5 m_wr_5 ql_59 qg_59 qv_59 qb_59 qf_59 qk_59 qp_59 qo_59 ph_5 _ _ (hh_59.sub (L1 := [(bo, 2, 1, .int wc_5), (bo, 2, 0, .ref wr_5), (fm, 4, 9, .int ql_59), (fm, 4, 8, .int qg_59), (fm, 4, 11, .int qv_59), (fm, 4, 4, .int qb_59), (fm, 4, 7, .int qf_59), (fm, 4, 2, .int qk_59), (fm, 4, 5, .int qp_59), (fm, 4, 6, .int qo_59), (r0, 13, 4, .ref bo), (r0, 13, 3, .ref ou), (r0, 13, 0, .ref ta), (r0, 13, 1, .ref fm)]) [10, 11, 0, 1, 2, 3, 4, 5, 6, 7, 12, 13, 14, 15] rfl (M1 := []) [] rfl (I1 := [([(2, 0), (2, 1)], jOl (dC, dI) G0 2 [bo, ou, ta] s.heap), (jFy, jYb dC dI Gx_5), (jFs11, jSef dC dI Gx_5), (jFl, jLs dC dI ca Gx_5 3 none), (jFdo, jDcc dC dI ca Gx_5 none ph_5)]) [0, 1, 2, 3, 4] rfl) (hN_5) (hle_5) hg_wr_5 (⟨(by first | assumption | omega | rfl | fail), (by first | assumption | omega | rfl | fail), (by first | assumption | omega | rfl | fail), (by first | assumption | omega | rfl | fail), (by first | assumption | fail | omega), (by first | assumption | omega | rfl | fail), (by first | assumption | omega | rfl | fail), (by first | assumption | omega | rfl | fail), (by first | assumption | omega | rfl | fail), (by first | assumption | omega | rfl | fail), (by first | assumption | omega | rfl | fail), (by first | assumption | omega | rfl | fail), (by first | assumption | omega | rfl | fail), (by first | assumption | omega | rfl | fail), (by first | assumption | omega | rfl | fail), (by first | assumption | omega | rfl | fail), (by first | assumption | omega | rfl | fail), (by first | assumption | omega | rfl | fail), (by first | assumption | omega | rfl | fail), (by first | assumption | omega | rfl | fail), (by first | assumption | omega | rfl | fail), (by first | assumption | omega | rfl | fail), (by first | assumption | omega | rfl | fail), (by first | assumption | omega | rfl | fail)⟩) (by omega) _ (lv_sub hl [1, 2, 0] rfl)
                · skip
                  have c_61' : r_60.toInt ≠ 0 := jb_eq_n (rfl) ((by decide)) c_61
                  first | (have hr_60p_14q := hr_60p_14.resolve_left (by omega); clear hr_60p_14) | (have hr_60p_14q := hr_60p_14.resolve_right (by omega); clear hr_60p_14) | skip
                  first | (have hr_60p_16q := hr_60p_16.resolve_left (by omega); clear hr_60p_16) | (have hr_60p_16q := hr_60p_16.resolve_right (by omega); clear hr_60p_16) | skip
                  refine lv_aload_n hx hb dX11_give_69 rfl (lv_at hl 0 rfl) ?_
                  obtain ⟨v_65, hv_65, hh_66⟩ := hh_59.pin (C := RX11) (T := TX11) (N := 19) hB13 rfl (by decide) hg_6 (i := 2) (by decide) rfl
                  obtain ⟨json_67, rfl, hg_json_67⟩ := hv_65
                  obtain ⟨v_68, hv_68, hh_69⟩ := hh_66.pin (C := RX4) (T := TX4) (N := 12) hB6 rfl (by decide) hg_json_67 (i := 0) (by decide) rfl
                  obtain ⟨kinds_70, rfl, hg_kinds_70⟩ := hv_68
                  obtain ⟨v_71, hv_71, hh_72⟩ := hh_69.pin (C := RX4) (T := TX4) (N := 12) hB6 rfl (by decide) hg_json_67 (i := 1) (by decide) rfl
                  obtain ⟨firsts_73, rfl, hg_firsts_73⟩ := hv_71
                  obtain ⟨v_74, hv_74, hh_75⟩ := hh_72.pin (C := RX4) (T := TX4) (N := 12) hB6 rfl (by decide) hg_json_67 (i := 2) (by decide) rfl
                  obtain ⟨sizes_76, rfl, hg_sizes_76⟩ := hv_74
                  obtain ⟨v_77, hv_77, hh_78⟩ := hh_75.pin (C := RX4) (T := TX4) (N := 12) hB6 rfl (by decide) hg_json_67 (i := 4) (by decide) rfl
                  obtain ⟨keyFirsts_79, rfl, hg_keyFirsts_79⟩ := hv_77
                  obtain ⟨v_80, hv_80, hh_81⟩ := hh_78.pin (C := RX4) (T := TX4) (N := 12) hB6 rfl (by decide) hg_json_67 (i := 5) (by decide) rfl
                  obtain ⟨keySizes_82, rfl, hg_keySizes_82⟩ := hv_80
                  obtain ⟨f_fk_83, hh_83⟩ := hh_81.cpin hB140 (by decide) (by decide) hg_kinds_70
                  clear hh_81
                  obtain ⟨f_fi_84, hh_84⟩ := hh_83.cpin hB141 (by decide) (by decide) hg_firsts_73
                  clear hh_83
                  obtain ⟨f_fz_85, hh_85⟩ := hh_84.cpin hB142 (by decide) (by decide) hg_sizes_76
                  clear hh_84
                  obtain ⟨f_fa_86, hh_86⟩ := hh_85.cpin hB144 (by decide) (by decide) hg_keyFirsts_79
                  clear hh_85
                  obtain ⟨f_fs_87, hh_87⟩ := hh_86.cpin hB145 (by decide) (by decide) hg_keySizes_82
                  clear hh_86
                  have hsz_63 := hh_87.2.2.2.2.2.1
                  have htt_63 := hh_87.2.2.2.2.2.2.1
                  refine W.room (fun hrc_63 hrs_63 => ?_)
                  refine j_callx (A0 := jA base) (H0 := s.heap) (va_runV (As := []) (rest := []) ⟨hx, hb, hml, hown, hts⟩ (uX11_understood l dC dI ca base B hB hAp hB2 hB4 hB6 hB10 hB13 hB100 hB101 hB140 hB141 hB142 hB143 hB144 hB145 hB146 hB196 Gx_5 H_59 r0 bo wc_5 wr_5 m_wr_5 ou json_67 kinds_70 firsts_73 sizes_76 keyFirsts_79 keySizes_82 fm qn_59 f_fk_83 f_fi_84 f_fz_85 f_fa_86 f_fs_87 LC LS) (cwV 0 hts (jgV (jWr_18 _ (List.mem_of_getElem? (i := 21) rfl)) (jWr_18 _ (List.mem_of_getElem? (i := 22) rfl)) (jWr_18 _ (List.mem_of_getElem? (i := 23) rfl)) (jWr_1 _ (List.mem_of_getElem? (i := 2) rfl)) (jWr_19 _ (List.mem_of_getElem? (i := 0) rfl))) rfl rfl rfl (by decide +kernel) ⟨by rw [← hR]; exact Nat.le_of_ble_eq_true rfl, by rw [← hR]; exact Nat.le_of_ble_eq_true rfl⟩) ⟨fun a U g mk q => by obtain ⟨q0, q1, q2, qK, q10, q11, q12, q13, q14, q15, q16, q17, q18, q19, q20, q21, q22, q23, q24⟩ := q; exact ⟨q0, q1, q2, jG.calling g mk a qK, q10, q11, q12, q13, q14, q15, q16, q17, q18, q19, q20, q21, q22, q23, q24⟩, hh_87.recv (C := RX11) (T := TX11) (N := 19) hB13 rfl (by decide) hg_6 hK, fun U hU hW => ⟨rfl, hU, hh_87.2.1, hG.step hW hU hh_87.1, hg_6, hg_7, hg_wr_5, hg_8, hg_json_67, hg_kinds_70, hg_firsts_73, hg_sizes_76, hg_keyFirsts_79, hg_keySizes_82, hg_10, (hh_87.2.2.1.sub (L1 := [(r0, 13, 4, .ref bo), (bo, 2, 1, .int wc_5), (bo, 2, 0, .ref wr_5), (r0, 13, 3, .ref ou), (r0, 13, 2, .ref json_67), (json_67, 6, 0, .ref kinds_70), (json_67, 6, 1, .ref firsts_73), (json_67, 6, 2, .ref sizes_76), (json_67, 6, 4, .ref keyFirsts_79), (json_67, 6, 5, .ref keySizes_82), (r0, 13, 1, .ref fm), (fm, 4, 1, .int qn_59)]) [18, 16, 17, 19, 5, 4, 3, 2, 1, 0, 21, 14] rfl), (hh_87.2.2.2.2.2.2.2.1.sub (L1 := [(kinds_70, 140, 1502, ca 1, f_fk_83), (firsts_73, 141, 1502, ca 1, f_fi_84), (sizes_76, 142, 1502, ca 1, f_fz_85), (keyFirsts_79, 144, 1502, ca 1, f_fa_86), (keySizes_82, 145, 1502, ca 1, f_fs_87)]) [4, 3, 2, 1, 0] rfl), (hh_87.2.2.2.2.2.2.2.2.sub (L1 := [(jFy, jYb dC dI Gx_5)]) [1] rfl), (by omega), (by omega), ⟨(by first | assumption | omega | rfl | fail), (by first | assumption | omega | rfl | fail), (by first | assumption | omega | rfl | fail), (by first | assumption | omega | rfl | fail), (by first | assumption | fail | omega), (by first | assumption | omega | rfl | fail)⟩⟩⟩ rfl rfl hl.1 rfl (lv_room (Nat.le_of_ble_eq_true rfl)) dX11_give_70 ⟨by rw [hRc]; omega, by rw [hRs]; omega⟩) hh_87.1 (fun q _ h => h) (fun q h => h) (fun r_64 u_63 t_63 H_63 locs_63 ht_63 hvm_63 hr_64 hb_63 hz_63 hk_63 hS_63 => ?_)
                  obtain ⟨qc_63, qv_63, qu_63, qa_63, m_qa_63, gk_63, gi_63, gz_63, ga_63, gs_63, m_ret_63, G_63⟩ := u_63
                  rw [ht_63] at hb_63
                  simp only at hb_63
                  obtain ⟨⟨hb_631, hb_632, hb_633, hb_634, hb_635, hb_636⟩, hgq_63_0, hN_63, hbO_63, hbE_63, hbM_63⟩ := hb_63
                  have hE9_63 := hN_63
                  have hN_63 : (jNk [0, 1, 4, 5, 6, 7, 8, 9, 11, 12, 13, 14, 15, 16]) Gx_5 G_63 := hN_63.sub (by decide)
                  have hh_63 : jSt (dC, dI) B base G0 G_63 EX11_give s.heap (zcx_5 + ((m_qa_63 - m_wr_5) / 16 + 11)) (zsx_5 + (2 * (m_qa_63 - m_wr_5) + 267)) [(bo, 2, 1, .int qc_63), (json_67, 6, 7, .int qv_63), (json_67, 6, 8, .int qu_63), (bo, 2, 0, .ref qa_63), (json_67, 6, 5, .ref keySizes_82), (json_67, 6, 4, .ref keyFirsts_79), (json_67, 6, 2, .ref sizes_76), (json_67, 6, 1, .ref firsts_73), (json_67, 6, 0, .ref kinds_70), (r0, 13, 2, .ref json_67), (fm, 4, 9, .int ql_59), (fm, 4, 8, .int qg_59), (fm, 4, 11, .int qv_59), (fm, 4, 4, .int qb_59), (fm, 4, 7, .int qf_59), (fm, 4, 2, .int qk_59), (fm, 4, 5, .int qp_59), (fm, 4, 6, .int qo_59), (fm, 4, 1, .int qn_59), (r0, 13, 4, .ref bo), (r0, 13, 3, .ref ou), (r0, 13, 0, .ref ta), (r0, 13, 1, .ref fm)] [] [(jFs11, jSef dC dI Gx_5), (jFl, jLs dC dI ca Gx_5 3 none), (jFdo, jDcc dC dI ca Gx_5 none ph_5)] H_63 locs_63 := (hh_87.callG hb_631 hb_632 hb_633 hb_634 hb_635 hS_63 rfl (L1 := [(json_67, 6, 5, .ref keySizes_82), (json_67, 6, 4, .ref keyFirsts_79), (json_67, 6, 2, .ref sizes_76), (json_67, 6, 1, .ref firsts_73), (json_67, 6, 0, .ref kinds_70), (r0, 13, 2, .ref json_67), (fm, 4, 9, .int ql_59), (fm, 4, 8, .int qg_59), (fm, 4, 11, .int qv_59), (fm, 4, 4, .int qb_59), (fm, 4, 7, .int qf_59), (fm, 4, 2, .int qk_59), (fm, 4, 5, .int qp_59), (fm, 4, 6, .int qo_59), (fm, 4, 1, .int qn_59), (r0, 13, 4, .ref bo), (r0, 13, 3, .ref ou), (r0, 13, 0, .ref ta), (r0, 13, 1, .ref fm)]) [0, 1, 2, 3, 4, 5, 6, 7, 8, 9, 10, 11, 12, 13, 14, 18, 19, 20, 21] rfl rfl (M1 := []) [] rfl rfl (I1 := [(jFs11, jSef dC dI Gx_5), (jFl, jLs dC dI ca Gx_5 3 none), (jFdo, jDcc dC dI ca Gx_5 none ph_5)]) [2, 3, 4] rfl rfl).more hb_636
                  have hNn_63 : (jNk [0, 1, 4, 5, 6, 7, 8, 9, 11, 12, 13, 14, 15, 16]) G0 G_63 := (hN_5).tr hN_63
                  have hg_88 := hb_632 _ _ hg_6
                  have hg_89 := hb_632 _ _ hg_keySizes_82
                  have hg_90 := hb_632 _ _ hg_keyFirsts_79
                  have hg_91 := hb_632 _ _ hg_sizes_76
                  have hg_92 := hb_632 _ _ hg_firsts_73
                  have hg_93 := hb_632 _ _ hg_kinds_70
                  have hg_94 := hb_632 _ _ hg_json_67
                  have hg_95 := hb_632 _ _ hg_7
                  have hg_96 := hb_632 _ _ hg_8
                  have hg_97 := hb_632 _ _ hg_9
                  have hg_98 := hb_632 _ _ hg_10
                  have hd_99 := jSef.grow (hh_63.iv 0 rfl) hb_632 hN_63 (by decide)
                  have hh_100 := hh_63.sub (L1 := [(bo, 2, 1, .int qc_63), (json_67, 6, 7, .int qv_63), (json_67, 6, 8, .int qu_63), (bo, 2, 0, .ref qa_63), (json_67, 6, 5, .ref keySizes_82), (json_67, 6, 4, .ref keyFirsts_79), (json_67, 6, 2, .ref sizes_76), (json_67, 6, 1, .ref firsts_73), (json_67, 6, 0, .ref kinds_70), (r0, 13, 2, .ref json_67), (fm, 4, 9, .int ql_59), (fm, 4, 8, .int qg_59), (fm, 4, 11, .int qv_59), (fm, 4, 4, .int qb_59), (fm, 4, 7, .int qf_59), (fm, 4, 2, .int qk_59), (fm, 4, 5, .int qp_59), (fm, 4, 6, .int qo_59), (fm, 4, 1, .int qn_59), (r0, 13, 4, .ref bo), (r0, 13, 3, .ref ou), (r0, 13, 0, .ref ta), (r0, 13, 1, .ref fm)]) [0, 1, 2, 3, 4, 5, 6, 7, 8, 9, 10, 11, 12, 13, 14, 15, 16, 17, 18, 19, 20, 21, 22] rfl (M1 := []) [] rfl (I1 := [(jFl, jLs dC dI ca Gx_5 3 none), (jFdo, jDcc dC dI ca Gx_5 none ph_5)]) [1, 2] rfl
                  clear hh_63
                  have hh_101 := hh_100.addI (jSef.ie hd_99)
                  clear hh_100
                  have hd_102 := jLs.grow (hh_101.iv 1 rfl) hb_632 hN_63 (by decide)
                  have hh_103 := hh_101.sub (L1 := [(bo, 2, 1, .int qc_63), (json_67, 6, 7, .int qv_63), (json_67, 6, 8, .int qu_63), (bo, 2, 0, .ref qa_63), (json_67, 6, 5, .ref keySizes_82), (json_67, 6, 4, .ref keyFirsts_79), (json_67, 6, 2, .ref sizes_76), (json_67, 6, 1, .ref firsts_73), (json_67, 6, 0, .ref kinds_70), (r0, 13, 2, .ref json_67), (fm, 4, 9, .int ql_59), (fm, 4, 8, .int qg_59), (fm, 4, 11, .int qv_59), (fm, 4, 4, .int qb_59), (fm, 4, 7, .int qf_59), (fm, 4, 2, .int qk_59), (fm, 4, 5, .int qp_59), (fm, 4, 6, .int qo_59), (fm, 4, 1, .int qn_59), (r0, 13, 4, .ref bo), (r0, 13, 3, .ref ou), (r0, 13, 0, .ref ta), (r0, 13, 1, .ref fm)]) [0, 1, 2, 3, 4, 5, 6, 7, 8, 9, 10, 11, 12, 13, 14, 15, 16, 17, 18, 19, 20, 21, 22] rfl (M1 := []) [] rfl (I1 := [(jFs11, jSef dC dI G_63), (jFdo, jDcc dC dI ca Gx_5 none ph_5)]) [0, 2] rfl
                  clear hh_101
                  have hh_104 := hh_103.addI (jLs.ie hd_102)
                  clear hh_103
                  have hd_105 := jDcc.grow (hh_104.iv 2 rfl) hb_632 hE9_63 (by decide)
                  have hh_106 := hh_104.sub (L1 := [(bo, 2, 1, .int qc_63), (json_67, 6, 7, .int qv_63), (json_67, 6, 8, .int qu_63), (bo, 2, 0, .ref qa_63), (json_67, 6, 5, .ref keySizes_82), (json_67, 6, 4, .ref keyFirsts_79), (json_67, 6, 2, .ref sizes_76), (json_67, 6, 1, .ref firsts_73), (json_67, 6, 0, .ref kinds_70), (r0, 13, 2, .ref json_67), (fm, 4, 9, .int ql_59), (fm, 4, 8, .int qg_59), (fm, 4, 11, .int qv_59), (fm, 4, 4, .int qb_59), (fm, 4, 7, .int qf_59), (fm, 4, 2, .int qk_59), (fm, 4, 5, .int qp_59), (fm, 4, 6, .int qo_59), (fm, 4, 1, .int qn_59), (r0, 13, 4, .ref bo), (r0, 13, 3, .ref ou), (r0, 13, 0, .ref ta), (r0, 13, 1, .ref fm)]) [0, 1, 2, 3, 4, 5, 6, 7, 8, 9, 10, 11, 12, 13, 14, 15, 16, 17, 18, 19, 20, 21, 22] rfl (M1 := []) [] rfl (I1 := [(jFl, jLs dC dI ca G_63 3 none), (jFs11, jSef dC dI G_63)]) [0, 1] rfl
                  clear hh_104
                  have hh_107 := hh_106.addI (jDcc.ie hd_105)
                  clear hh_106
                  have hh_108 := hh_107.moreM hbM_63
                  have hh_109 := hh_108.addIs hbE_63
                  have hh_110 := hh_109.more (P1 := [(ta, 2, 0, .ref row_27)]) (jP.cons hg_97 (hbO_63 _ _ _ _ (jn2 (by first | assumption | exact Ne.symm (by assumption) | exact jnek hg_9 hg_7 (by decide)) (by first | assumption | exact Ne.symm (by assumption) | exact jnek hg_9 hg_8 (by decide))) hg_9 (hh_87.at 15 rfl)) jP.nil)
                  have hg_111 := hb_632 _ _ hg_row_27
                  have hd_112 := jOl.trL (hh_87.iv 0 rfl) hh_87.2.2.2.2.1 hbO_63 (by simp)
                  have hh_113 := hh_110.addI (jOl.ie (dC := dC) (dI := dI) (G0 := G0) (k := 2) (rs := [bo, ou, ta]) (H0 := s.heap) (F := [(2, 0), (2, 1)]) (C := RX0) (T := TX0) (N := 2) rfl (by decide) hh_110.2.2.2.2.1 (hd_112))
                  clear hh_110
                  obtain ⟨hr_64, hr_64p⟩ := hr_64
                  try simp only at hr_64p
                  obtain ⟨hr_64p_0, hr_64p_1, hr_64p_2, hr_64p_3, hr_64p_4, hr_64p_5, hr_64p_6, hr_64p_7, hr_64p_8, hr_64p_9⟩ := hr_64p
                  rcases hr_64 with rfl | ⟨hr_64, hr_64n⟩
                  · skip
                    refine j7_nst_n (lv' := [(3, .null), (0, .ref r0), (1, .int a1), (2, .int v2_5)]) hx hb dX11_give_73 rfl hl (by decide) rfl (fun ls hl => ?_)
                    refine j7_nld_n hx hb dX11_give_74 rfl (lv_at hl 0 rfl) ?_
                    refine lv_ifnullN (tgt := 93) hx hb dX11_give_75 (by decide) ?_
                    refine j7_nld_n hx hb dX11_give_93 rfl (lv_at hl 0 rfl) ?_
                    refine lv_ifnullN (tgt := 101) hx hb dX11_give_94 (by decide) ?_
                    obtain ⟨z_114, ez_114⟩ : ∃ y : Int32, y = v2_5 + 1 := ⟨_, rfl⟩
                    refine lv_iinc (v := z_114) (lv' := [(2, .int z_114), (3, .null), (0, .ref r0), (1, .int a1)]) hx hb dX11_give_101 hl (k := 3) rfl (by rw [ez_114]; rfl) (by decide) rfl (fun ls hl => ?_)
                    have hz_114 : z_114.toInt = v2_5.toInt + 1 := by rw [ez_114]; exact jb_iadd2 (rfl) (by decide) (by omega)
                    refine lv_goto (tgt := 19) hx hb dX11_give_104 (by decide) ?_
                    refine W.tight (c2 := (zcx_5 + ((m_qa_63 - m_wr_5) / 16 + 11))) (n2 := (zsx_5 + (2 * (m_qa_63 - m_wr_5) + 267))) hh_113.2.2.2.2.2.1 hh_113.2.2.2.2.2.2.1 ?_
                    exact L19 G_63 (zcx_5 + ((m_qa_63 - m_wr_5) / 16 + 11)) (zsx_5 + (2 * (m_qa_63 - m_wr_5) + 267)) z_114 qc_63 qa_63 m_qa_63 ql_59 qg_59 qv_59 qb_59 qf_59 qk_59 qp_59 qo_59 ph_5 _ _ (hh_113.sub (L1 := [(bo, 2, 1, .int qc_63), (bo, 2, 0, .ref qa_63), (fm, 4, 9, .int ql_59), (fm, 4, 8, .int qg_59), (fm, 4, 11, .int qv_59), (fm, 4, 4, .int qb_59), (fm, 4, 7, .int qf_59), (fm, 4, 2, .int qk_59), (fm, 4, 5, .int qp_59), (fm, 4, 6, .int qo_59), (r0, 13, 4, .ref bo), (r0, 13, 3, .ref ou), (r0, 13, 0, .ref ta), (r0, 13, 1, .ref fm)]) [1, 4, 11, 12, 13, 14, 15, 16, 17, 18, 20, 21, 22, 23] rfl (M1 := []) [] rfl (I1 := [([(2, 0), (2, 1)], jOl (dC, dI) G0 2 [bo, ou, ta] s.heap), (jFy, jYb dC dI G_63), (jFs11, jSef dC dI G_63), (jFl, jLs dC dI ca G_63 3 none), (jFdo, jDcc dC dI ca G_63 none ph_5)]) [0, 1, 4, 3, 2] rfl) (hNn_63) ((hle_5).tr hb_632) hgq_63_0 (⟨(by first | assumption | omega | rfl | fail), (by first | assumption | omega | rfl | fail), (by first | assumption | omega | rfl | fail), (by first | assumption | omega | rfl | fail), (by first | assumption | fail | omega), (by first | assumption | omega | rfl | fail), (by first | assumption | omega | rfl | fail), (by first | assumption | omega | rfl | fail), (by first | assumption | omega | rfl | fail), (by first | assumption | omega | rfl | fail), (by first | assumption | omega | rfl | fail), (by first | assumption | omega | rfl | fail), (by first | assumption | omega | rfl | fail), (by first | assumption | omega | rfl | fail), (by first | assumption | omega | rfl | fail), (by first | assumption | omega | rfl | fail), (by first | assumption | omega | rfl | fail), (by first | assumption | omega | rfl | fail), (by first | assumption | omega | rfl | fail), (by first | assumption | omega | rfl | fail), (by first | assumption | omega | rfl | fail), (by first | assumption | omega | rfl | fail), (by first | assumption | omega | rfl | fail), (by first | assumption | omega | rfl | fail)⟩) (by omega) _ (lv_sub hl [2, 3, 0] rfl)
                  · skip
                    obtain ⟨ret_115, rfl, hg_ret_115⟩ := hr_64
                    have hsy_63 : s.heap.size ≤ ret_115 := Nat.le_trans hh_87.1.1 hr_64n.le
                    obtain rfl : m_ret_63 = 0 := by omega
                    refine lv_astore_n (lv' := [(3, .ref ret_115), (0, .ref r0), (1, .int a1), (2, .int v2_5)]) hx hb dX11_give_73 rfl hl (by decide) rfl (fun ls hl => ?_)
                    refine lv_aload_n hx hb dX11_give_74 rfl (lv_at hl 0 rfl) ?_
                    refine lv_ifnull hx hb dX11_give_75 ?_
                    have hmh := jMh.of hr_64p_8 (jNnl hr_64p_9)
                    have hjq := hmh.q (by omega)
                    have hju := hmh.u
                    have hpu := hmh.pu
                    have hm1 := hmh.one
                    refine lv_aload_n hx hb dX11_give_78 rfl (lv_at hl 0 rfl) ?_
                    obtain ⟨v_116, hv_116, hh_117⟩ := hh_113.pin (C := RX8) (T := TX8) (N := 5) hB10 rfl (by decide) hg_ret_115 (i := 0) (by decide) rfl
                    clear hh_113
                    rcases hv_116 with rfl | ⟨id_118, rfl, hg_id_118⟩
                    · refine j7_read hx hb hown hK (C := RX8) (T := TX8) (N := 5) rfl hly_10_0 hlk_114 (hh_117.at 0 rfl) dX11_give_79 ?_
                      refine lv_ifnullN (tgt := 93) hx hb dX11_give_82 (by decide) ?_
                      refine lv_aload_n hx hb dX11_give_93 rfl (lv_at hl 0 rfl) ?_
                      refine lv_ifnull hx hb dX11_give_94 ?_
                      refine lv_aload_n hx hb dX11_give_97 rfl (lv_at hl 1 rfl) ?_
                      obtain ⟨v_121, hv_121, hh_122⟩ := hh_117.pin (C := RX11) (T := TX11) (N := 19) hB13 rfl (by decide) hg_88 (i := 7) (by decide) rfl
                      obtain ⟨open_123, rfl, hg_open_123⟩ := hv_121
                      obtain ⟨v_124, hv_124, hh_125⟩ := hh_122.pin (C := RJx4a65c) (T := TJx4a65c) (N := 3) hB1 rfl (by decide) hg_open_123 (i := 2) (by decide) rfl
                      obtain ⟨size_126, rfl, hlosize_126, hhisize_126⟩ := hv_124
                      have hsz_119 := hh_125.2.2.2.2.2.1
                      have htt_119 := hh_125.2.2.2.2.2.2.1
                      refine W.room (fun hrc_119 hrs_119 => ?_)
                      refine va_callv (A0 := jA base) (H0 := s.heap) (va_runV (As := []) (rest := []) ⟨hx, hb, hml, hown, hts⟩ (uX11_notification l dC dI ca base B hB hAp hB1 hB2 hB3 hB4 hB6 hB7 hB8 hB10 hB11 hB12 hB13 hB101 hB102 hB132 hB133 hB140 hB141 hB142 hB143 hB144 hB145 hB146 hB171 hB172 hB196 hB210 hB212 hB221 hB222 hB293 G_63 H_63 r0 bo qc_63 qa_63 m_qa_63 ou json_67 qv_63 qu_63 kinds_70 firsts_73 sizes_76 keyFirsts_79 keySizes_82 fm qn_59 open_123 size_126 (ph_5) gk_63 gi_63 gz_63 ga_63 gs_63 LC LS) (cwV 0 hts (jgV (jWr_35 _ (List.mem_of_getElem? (i := 7) rfl)) (jWr_35 _ (List.mem_of_getElem? (i := 8) rfl)) (jWr_35 _ (List.mem_of_getElem? (i := 9) rfl)) (jWr_1 _ (List.mem_of_getElem? (i := 2) rfl)) (jWr_35 _ (List.mem_of_getElem? (i := 10) rfl))) rfl rfl rfl (by decide +kernel) ⟨by rw [← hR]; exact Nat.le_of_ble_eq_true rfl, by rw [← hR]; exact Nat.le_of_ble_eq_true rfl⟩) ⟨fun a U g mk q => by obtain ⟨q0, q1, q2, qK, q10, q11, q12, q13, q14, q15, q16, q17, q18, q19, q20, q21, q22, q23, q24, q25, q26, q27, q28, q29⟩ := q; exact ⟨q0, q1, q2, jG.calling g mk a qK, (va_K.moved (Vm.Alike.refl U.vm) q10), (jK5.moved (Vm.Alike.refl U.vm) q11), (jK6.moved (Vm.Alike.refl U.vm) q12), (jK7.calling g mk a q13), q14, q15, q16, q17, q18, q19, q20, q21, q22, q23, q24, q25, q26, q27, q28, q29⟩, hh_125.recv (C := RX11) (T := TX11) (N := 19) hB13 rfl (by decide) hg_88 hK, fun U hU hW => ⟨rfl, hU, hh_125.2.1, hG.step hW hU hh_125.1, va_K.moved hW.alike hK2, jK5.moved hW.alike hK5, jK6.moved hW.alike hK6, (hK7.step hW hU hh_125.1), hg_88, hg_95, hgq_63_0, hg_96, hg_94, hg_93, hg_92, hg_91, hg_90, hg_89, hg_98, hg_open_123, (hh_125.2.2.1.sub (L1 := [(r0, 13, 4, .ref bo), (bo, 2, 1, .int qc_63), (bo, 2, 0, .ref qa_63), (r0, 13, 3, .ref ou), (r0, 13, 2, .ref json_67), (json_67, 6, 7, .int qv_63), (json_67, 6, 8, .int qu_63), (json_67, 6, 0, .ref kinds_70), (json_67, 6, 1, .ref firsts_73), (json_67, 6, 2, .ref sizes_76), (json_67, 6, 4, .ref keyFirsts_79), (json_67, 6, 5, .ref keySizes_82), (r0, 13, 1, .ref fm), (fm, 4, 1, .int qn_59), (r0, 13, 7, .ref open_123), (open_123, 1, 2, .int size_126)]) [23, 4, 7, 24, 13, 5, 6, 12, 11, 10, 9, 8, 26, 22, 1, 0] rfl), (hh_125.2.2.2.2.2.2.2.1.sub (L1 := [(kinds_70, 140, 1502, ca 1, gk_63), (firsts_73, 141, 1502, ca 1, gi_63), (sizes_76, 142, 1502, ca 1, gz_63), (keyFirsts_79, 144, 1502, ca 1, ga_63), (keySizes_82, 145, 1502, ca 1, gs_63)]) [0, 1, 2, 3, 4] rfl), (hh_125.2.2.2.2.2.2.2.2.sub (L1 := [(jFy, jYb dC dI G_63), (jFl, jLs dC dI ca G_63 3 none), (jFdo, jDcc dC dI ca G_63 none ph_5)]) [1, 3, 2] rfl), (by omega), (by omega), ⟨(by first | assumption | omega | rfl | fail), (by first | assumption | omega | rfl | fail), (by first | assumption | omega | rfl | fail), (by first | assumption | omega | rfl | fail), (by first | assumption | fail | omega), (by first | assumption | omega | rfl | fail), (by first | assumption | omega | rfl | fail), (by first | assumption | omega | rfl | fail), (by first | assumption | omega | rfl | fail), (by first | assumption | fail | omega), (by first | assumption | fail | omega), (by first | assumption | fail | omega), (by first | assumption | omega | rfl | fail), (by first | assumption | omega | rfl | fail), (by first | assumption | omega | rfl | fail), (by first | assumption | omega | rfl | fail)⟩⟩⟩ rfl rfl hl.1 rfl (lv_room (Nat.le_of_ble_eq_true rfl)) dX11_give_98 ⟨by rw [hRc]; omega, by rw [hRs]; omega⟩) hh_125.1 (fun q _ h => h) (fun q h => h) (fun u_119 t_119 H_119 locs_119 ht_119 hvm_119 hr_120 hb_119 hz_119 hk_119 hS_119 => ?_)
                      obtain ⟨qc_119, qa_119, m_qa_119, qph_119, G_119⟩ := u_119
                      rw [ht_119] at hb_119
                      simp only at hb_119
                      obtain ⟨⟨hb_1191, hb_1192, hb_1193, hb_1194, hb_1195, hb_1196⟩, hgq_119_0, hN_119, hbO_119, hbE_119⟩ := hb_119
                      have hh_119 : jSt (dC, dI) B base G0 G_119 EX11_give s.heap ((zcx_5 + ((m_qa_63 - m_wr_5) / 16 + 11)) + ((m_qa_119 - m_qa_63) / 16 + ((ph_5) + 200 * (qn_59.toInt : Int).toNat - qph_119) / 16)) ((zsx_5 + (2 * (m_qa_63 - m_wr_5) + 267)) + (2 * (m_qa_119 - m_qa_63) + ((ph_5) + 200 * (qn_59.toInt : Int).toNat - qph_119))) [(bo, 2, 1, .int qc_119), (bo, 2, 0, .ref qa_119), (r0, 13, 7, .ref open_123), (ret_115, 10, 0, .null), (json_67, 6, 7, .int qv_63), (json_67, 6, 8, .int qu_63), (json_67, 6, 5, .ref keySizes_82), (json_67, 6, 4, .ref keyFirsts_79), (json_67, 6, 2, .ref sizes_76), (json_67, 6, 1, .ref firsts_73), (json_67, 6, 0, .ref kinds_70), (r0, 13, 2, .ref json_67), (fm, 4, 9, .int ql_59), (fm, 4, 8, .int qg_59), (fm, 4, 11, .int qv_59), (fm, 4, 7, .int qf_59), (fm, 4, 2, .int qk_59), (fm, 4, 5, .int qp_59), (fm, 4, 6, .int qo_59), (fm, 4, 1, .int qn_59), (r0, 13, 4, .ref bo), (r0, 13, 3, .ref ou), (r0, 13, 0, .ref ta), (r0, 13, 1, .ref fm)] [(kinds_70, 140, 1502, ca 1, gk_63), (firsts_73, 141, 1502, ca 1, gi_63), (sizes_76, 142, 1502, ca 1, gz_63), (keyFirsts_79, 144, 1502, ca 1, ga_63), (keySizes_82, 145, 1502, ca 1, gs_63)] [(jFs11, jSef dC dI G_63)] H_119 locs_119 := (hh_125.callG hb_1191 hb_1192 hb_1193 hb_1194 hb_1195 hS_119 rfl (L1 := [(r0, 13, 7, .ref open_123), (ret_115, 10, 0, .null), (json_67, 6, 7, .int qv_63), (json_67, 6, 8, .int qu_63), (json_67, 6, 5, .ref keySizes_82), (json_67, 6, 4, .ref keyFirsts_79), (json_67, 6, 2, .ref sizes_76), (json_67, 6, 1, .ref firsts_73), (json_67, 6, 0, .ref kinds_70), (r0, 13, 2, .ref json_67), (fm, 4, 9, .int ql_59), (fm, 4, 8, .int qg_59), (fm, 4, 11, .int qv_59), (fm, 4, 7, .int qf_59), (fm, 4, 2, .int qk_59), (fm, 4, 5, .int qp_59), (fm, 4, 6, .int qo_59), (fm, 4, 1, .int qn_59), (r0, 13, 4, .ref bo), (r0, 13, 3, .ref ou), (r0, 13, 0, .ref ta), (r0, 13, 1, .ref fm)]) [1, 2, 5, 6, 8, 9, 10, 11, 12, 13, 14, 15, 16, 18, 19, 20, 21, 22, 23, 24, 25, 26] rfl rfl (M1 := [(kinds_70, 140, 1502, ca 1, gk_63), (firsts_73, 141, 1502, ca 1, gi_63), (sizes_76, 142, 1502, ca 1, gz_63), (keyFirsts_79, 144, 1502, ca 1, ga_63), (keySizes_82, 145, 1502, ca 1, gs_63)]) [0, 1, 2, 3, 4] rfl rfl (I1 := [(jFs11, jSef dC dI G_63)]) [4] rfl rfl).more hb_1196
                      have hNn_119 : (jNk [0, 1, 4, 5, 6, 7, 8, 9, 11, 12, 13, 14, 15, 16]) G0 G_119 := (hNn_63).tr hN_119
                      have hg_127 := hb_1192 _ _ hg_ret_115
                      have hg_128 := hb_1192 _ _ hg_88
                      have hg_129 := hb_1192 _ _ hg_open_123
                      have hg_130 := hb_1192 _ _ hg_89
                      have hg_131 := hb_1192 _ _ hg_90
                      have hg_132 := hb_1192 _ _ hg_91
                      have hg_133 := hb_1192 _ _ hg_92
                      have hg_134 := hb_1192 _ _ hg_93
                      have hg_135 := hb_1192 _ _ hg_94
                      have hg_136 := hb_1192 _ _ hg_95
                      have hg_137 := hb_1192 _ _ hg_96
                      have hg_138 := hb_1192 _ _ hg_97
                      have hg_139 := hb_1192 _ _ hg_98
                      have hd_140 := jSef.grow (hh_119.iv 0 rfl) hb_1192 hN_119 (by decide)
                      have hh_141 := hh_119.sub (L1 := [(bo, 2, 1, .int qc_119), (bo, 2, 0, .ref qa_119), (r0, 13, 7, .ref open_123), (ret_115, 10, 0, .null), (json_67, 6, 7, .int qv_63), (json_67, 6, 8, .int qu_63), (json_67, 6, 5, .ref keySizes_82), (json_67, 6, 4, .ref keyFirsts_79), (json_67, 6, 2, .ref sizes_76), (json_67, 6, 1, .ref firsts_73), (json_67, 6, 0, .ref kinds_70), (r0, 13, 2, .ref json_67), (fm, 4, 9, .int ql_59), (fm, 4, 8, .int qg_59), (fm, 4, 11, .int qv_59), (fm, 4, 7, .int qf_59), (fm, 4, 2, .int qk_59), (fm, 4, 5, .int qp_59), (fm, 4, 6, .int qo_59), (fm, 4, 1, .int qn_59), (r0, 13, 4, .ref bo), (r0, 13, 3, .ref ou), (r0, 13, 0, .ref ta), (r0, 13, 1, .ref fm)]) [0, 1, 2, 3, 4, 5, 6, 7, 8, 9, 10, 11, 12, 13, 14, 15, 16, 17, 18, 19, 20, 21, 22, 23] rfl (M1 := [(kinds_70, 140, 1502, ca 1, gk_63), (firsts_73, 141, 1502, ca 1, gi_63), (sizes_76, 142, 1502, ca 1, gz_63), (keyFirsts_79, 144, 1502, ca 1, ga_63), (keySizes_82, 145, 1502, ca 1, gs_63)]) [0, 1, 2, 3, 4] rfl (I1 := []) [] rfl
                      clear hh_119
                      have hh_142 := hh_141.addI (jSef.ie hd_140)
                      clear hh_141
                      have hh_143 := hh_142.addIs hbE_119
                      have hh_144 := hh_143.more (P1 := [(ta, 2, 0, .ref row_27)]) (jP.cons hg_138 (hbO_119 _ _ _ _ (jn2 (by first | assumption | exact Ne.symm (by assumption) | exact jnek hg_97 hg_95 (by decide)) (by first | assumption | exact Ne.symm (by assumption) | exact jnek hg_97 hg_96 (by decide))) hg_97 (hh_125.at 3 rfl)) jP.nil)
                      have hg_145 := hb_1192 _ _ hg_111
                      have hd_146 := jOl.trL (hh_125.iv 0 rfl) hh_125.2.2.2.2.1 hbO_119 (by simp)
                      have hh_147 := hh_144.addI (jOl.ie (dC := dC) (dI := dI) (G0 := G0) (k := 2) (rs := [bo, ou, ta]) (H0 := s.heap) (F := [(2, 0), (2, 1)]) (C := RX0) (T := TX0) (N := 2) rfl (by decide) hh_144.2.2.2.2.1 (hd_146))
                      clear hh_144
                      try simp only at hr_120
                      obtain ⟨hr_120_0, hr_120_1, hr_120_2, hr_120_3, hr_120_4, hr_120_5⟩ := hr_120
                      obtain ⟨z_148, ez_148⟩ : ∃ y : Int32, y = v2_5 + 1 := ⟨_, rfl⟩
                      refine lv_iinc (v := z_148) (lv' := [(2, .int z_148), (3, .ref ret_115), (0, .ref r0), (1, .int a1)]) hx hb dX11_give_101 hl (k := 3) rfl (by rw [ez_148]; rfl) (by decide) rfl (fun ls hl => ?_)
                      have hz_148 : z_148.toInt = v2_5.toInt + 1 := by rw [ez_148]; exact jb_iadd2 (rfl) (by decide) (by omega)
                      refine lv_goto (tgt := 19) hx hb dX11_give_104 (by decide) ?_
                      obtain ⟨v_149, hv_149, hh_150⟩ := hh_147.pin (C := RX2) (T := TX2) (N := 12) hB4 rfl (by decide) hg_139 (i := 4) (by decide) rfl
                      obtain ⟨broken_151, rfl, hzbroken_151⟩ := hv_149
                      have hzbroken_151' := jb_01 hzbroken_151
                      refine W.tight (c2 := ((zcx_5 + ((m_qa_63 - m_wr_5) / 16 + 11)) + ((m_qa_119 - m_qa_63) / 16 + ((ph_5) + 200 * (qn_59.toInt : Int).toNat - qph_119) / 16))) (n2 := ((zsx_5 + (2 * (m_qa_63 - m_wr_5) + 267)) + (2 * (m_qa_119 - m_qa_63) + ((ph_5) + 200 * (qn_59.toInt : Int).toNat - qph_119)))) hh_150.2.2.2.2.2.1 hh_150.2.2.2.2.2.2.1 ?_
                      exact L19 G_119 ((zcx_5 + ((m_qa_63 - m_wr_5) / 16 + 11)) + ((m_qa_119 - m_qa_63) / 16 + ((ph_5) + 200 * (qn_59.toInt : Int).toNat - qph_119) / 16)) ((zsx_5 + (2 * (m_qa_63 - m_wr_5) + 267)) + (2 * (m_qa_119 - m_qa_63) + ((ph_5) + 200 * (qn_59.toInt : Int).toNat - qph_119))) z_148 qc_119 qa_119 m_qa_119 ql_59 qg_59 qv_59 broken_151 qf_59 qk_59 qp_59 qo_59 qph_119 _ _ (hh_150.sub (L1 := [(bo, 2, 1, .int qc_119), (bo, 2, 0, .ref qa_119), (fm, 4, 9, .int ql_59), (fm, 4, 8, .int qg_59), (fm, 4, 11, .int qv_59), (fm, 4, 4, .int broken_151), (fm, 4, 7, .int qf_59), (fm, 4, 2, .int qk_59), (fm, 4, 5, .int qp_59), (fm, 4, 6, .int qo_59), (r0, 13, 4, .ref bo), (r0, 13, 3, .ref ou), (r0, 13, 0, .ref ta), (r0, 13, 1, .ref fm)]) [2, 3, 14, 15, 16, 0, 17, 18, 19, 20, 22, 23, 24, 25] rfl (M1 := []) [] rfl (I1 := [([(2, 0), (2, 1)], jOl (dC, dI) G0 2 [bo, ou, ta] s.heap), (jFy, jYb dC dI G_119), (jFs11, jSef dC dI G_119), (jFl, jLs dC dI ca G_119 3 none), (jFdo, jDcc dC dI ca G_119 none qph_119)]) [0, 1, 4, 2, 3] rfl) (hNn_119) (((hle_5).tr hb_632).tr hb_1192) hgq_119_0 (⟨(by first | assumption | omega | rfl | fail), (by first | assumption | omega | rfl | fail), (by first | assumption | omega | rfl | fail), (by first | assumption | omega | rfl | fail), (by first | assumption | fail | omega), (by first | assumption | omega | rfl | fail), (by first | assumption | omega | rfl | fail), (by first | assumption | omega | rfl | fail), (by first | assumption | omega | rfl | fail), (by first | assumption | omega | rfl | fail), (by first | assumption | omega | rfl | fail), (by first | assumption | omega | rfl | fail), (by first | assumption | omega | rfl | fail), (by first | assumption | omega | rfl | fail), (by first | assumption | omega | rfl | fail), (by first | assumption | omega | rfl | fail), (by first | assumption | omega | rfl | fail), (by first | assumption | omega | rfl | fail), (by first | assumption | omega | rfl | fail), (by first | assumption | omega | rfl | fail), (by first | assumption | omega | rfl | fail), (by first | assumption | omega | rfl | fail), (by first | assumption | omega | rfl | fail), (by first | assumption | omega | rfl | fail)⟩) (by omega) _ (lv_sub hl [2, 3, 0] rfl)
                    · refine j7_read hx hb hown hK (C := RX8) (T := TX8) (N := 5) rfl hly_10_0 hlk_114 (hh_117.at 0 rfl) dX11_give_79 ?_
                      refine lv_ifnull hx hb dX11_give_82 ?_
                      refine lv_aload_n hx hb dX11_give_85 rfl (lv_at hl 1 rfl) ?_
                      refine lv_aload_n hx hb dX11_give_86 rfl (lv_at hl 0 rfl) ?_
                      have hsz_152 := hh_117.2.2.2.2.2.1
                      have htt_152 := hh_117.2.2.2.2.2.2.1
                      refine W.room (fun hrc_152 hrs_152 => ?_)
                      refine va_callv (A0 := jA base) (H0 := s.heap) (va_runV (As := [.ref ret_115]) (rest := []) ⟨hx, hb, hml, hown, hts⟩ (uX11_request l dC dI ca base B hB hAp hB1 hB2 hB3 hB4 hB5 hB6 hB7 hB8 hB9 hB10 hB11 hB13 hB101 hB102 hB132 hB133 hB140 hB141 hB142 hB143 hB144 hB145 hB146 hB172 hB196 hB210 hB214 hB221 hB222 hB280 hB286 hB287 hB288 hB313 G_63 H_63 r0 ret_115 bo qc_63 qa_63 m_qa_63 ou json_67 qv_63 qu_63 kinds_70 firsts_73 sizes_76 keySizes_82 gk_63 gi_63 gz_63 gs_63 LC LS) (cwV 1 hts (jgV (jWr_27 _ (List.mem_of_getElem? (i := 6) rfl)) (jWr_27 _ (List.mem_of_getElem? (i := 7) rfl)) (jWr_27 _ (List.mem_of_getElem? (i := 8) rfl)) (jWr_1 _ (List.mem_of_getElem? (i := 2) rfl)) (jWr_27 _ (List.mem_of_getElem? (i := 9) rfl))) rfl rfl rfl (by decide +kernel) ⟨by rw [← hR]; exact Nat.le_of_ble_eq_true rfl, by rw [← hR]; exact Nat.le_of_ble_eq_true rfl⟩) ⟨fun a U g mk q => by obtain ⟨q0, q1, q2, qK, q10, q11, q12, q13, q14, q15, q16, q17, q18, q19, q20, q21, q22, q23, q24, q25, q26⟩ := q; exact ⟨q0, q1, q2, jG.calling g mk a qK, (va_K.moved (Vm.Alike.refl U.vm) q10), (jK5.moved (Vm.Alike.refl U.vm) q11), (jK7.calling g mk a q12), q13, q14, q15, q16, q17, q18, q19, q20, q21, q22, q23, q24, q25, q26⟩, hh_117.recv (C := RX11) (T := TX11) (N := 19) hB13 rfl (by decide) hg_88 hK, fun U hU hW => ⟨rfl, hU, hh_117.2.1, hG.step hW hU hh_117.1, va_K.moved hW.alike hK2, jK5.moved hW.alike hK5, (hK7.step hW hU hh_117.1), hg_88, hg_ret_115, hg_95, hgq_63_0, hg_96, hg_94, hg_93, hg_92, hg_91, hg_89, (hh_117.2.2.1.sub (L1 := [(r0, 13, 4, .ref bo), (bo, 2, 1, .int qc_63), (bo, 2, 0, .ref qa_63), (r0, 13, 3, .ref ou), (r0, 13, 2, .ref json_67), (json_67, 6, 7, .int qv_63), (json_67, 6, 8, .int qu_63), (json_67, 6, 0, .ref kinds_70), (json_67, 6, 1, .ref firsts_73), (json_67, 6, 2, .ref sizes_76), (json_67, 6, 5, .ref keySizes_82)]) [21, 2, 5, 22, 11, 3, 4, 10, 9, 8, 6] rfl), (hh_117.2.2.2.2.2.2.2.1.sub (L1 := [(kinds_70, 140, 1502, ca 1, gk_63), (firsts_73, 141, 1502, ca 1, gi_63), (sizes_76, 142, 1502, ca 1, gz_63), (keySizes_82, 145, 1502, ca 1, gs_63)]) [0, 1, 2, 4] rfl), (hh_117.2.2.2.2.2.2.2.2.sub (L1 := [(jFy, jYb dC dI G_63), (jFs11, jSef dC dI G_63), (jFl, jLs dC dI ca G_63 3 none)]) [1, 4, 3] rfl), (by omega), (by omega), ⟨(by first | assumption | omega | rfl | fail), (by first | assumption | omega | rfl | fail), (by first | assumption | omega | rfl | fail), (by first | assumption | omega | rfl | fail), (by first | assumption | fail | omega), (by first | assumption | omega | rfl | fail), (by first | assumption | omega | rfl | fail), (by first | assumption | omega | rfl | fail), (by first | assumption | omega | rfl | fail), (by first | assumption | fail | omega), (by first | assumption | fail | omega)⟩⟩⟩ rfl rfl hl.1 rfl (lv_room (Nat.le_of_ble_eq_true rfl)) dX11_give_87 ⟨by rw [hRc]; omega, by rw [hRs]; omega⟩) hh_117.1 (fun q _ h => h) (fun q h => h) (fun u_152 t_152 H_152 locs_152 ht_152 hvm_152 hr_153 hb_152 hz_152 hk_152 hS_152 => ?_)
                      obtain ⟨qc_152, qa_152, m_qa_152, G_152⟩ := u_152
                      rw [ht_152] at hb_152
                      simp only at hb_152
                      obtain ⟨⟨hb_1521, hb_1522, hb_1523, hb_1524, hb_1525, hb_1526⟩, hgq_152_0, hN_152, hbO_152, hbE_152⟩ := hb_152
                      have hE9_152 := hN_152
                      have hY_152 := hN_152
                      have hN_152 : (jNk [0, 1, 4, 5, 6, 7, 8, 9, 11, 12, 13, 14, 15, 16]) G_63 G_152 := hN_152.sub (by decide)
                      have hh_152 : jSt (dC, dI) B base G0 G_152 EX11_give s.heap ((zcx_5 + ((m_qa_63 - m_wr_5) / 16 + 11)) + ((m_qa_152 - m_qa_63) / 16 + 2)) ((zsx_5 + (2 * (m_qa_63 - m_wr_5) + 267)) + (2 * (m_qa_152 - m_qa_63) + 40 + (qu_63.toInt : Int).toNat)) [(bo, 2, 1, .int qc_152), (bo, 2, 0, .ref qa_152), (ret_115, 10, 0, .ref id_118), (json_67, 6, 7, .int qv_63), (json_67, 6, 8, .int qu_63), (json_67, 6, 5, .ref keySizes_82), (json_67, 6, 4, .ref keyFirsts_79), (json_67, 6, 2, .ref sizes_76), (json_67, 6, 1, .ref firsts_73), (json_67, 6, 0, .ref kinds_70), (r0, 13, 2, .ref json_67), (fm, 4, 9, .int ql_59), (fm, 4, 8, .int qg_59), (fm, 4, 11, .int qv_59), (fm, 4, 4, .int qb_59), (fm, 4, 7, .int qf_59), (fm, 4, 2, .int qk_59), (fm, 4, 5, .int qp_59), (fm, 4, 6, .int qo_59), (fm, 4, 1, .int qn_59), (r0, 13, 4, .ref bo), (r0, 13, 3, .ref ou), (r0, 13, 0, .ref ta), (r0, 13, 1, .ref fm)] [(kinds_70, 140, 1502, ca 1, gk_63), (firsts_73, 141, 1502, ca 1, gi_63), (sizes_76, 142, 1502, ca 1, gz_63), (keyFirsts_79, 144, 1502, ca 1, ga_63), (keySizes_82, 145, 1502, ca 1, gs_63)] [(jFdo, jDcc dC dI ca G_63 none ph_5)] H_152 locs_152 := (hh_117.callG hb_1521 hb_1522 hb_1523 hb_1524 hb_1525 hS_152 rfl (L1 := [(ret_115, 10, 0, .ref id_118), (json_67, 6, 7, .int qv_63), (json_67, 6, 8, .int qu_63), (json_67, 6, 5, .ref keySizes_82), (json_67, 6, 4, .ref keyFirsts_79), (json_67, 6, 2, .ref sizes_76), (json_67, 6, 1, .ref firsts_73), (json_67, 6, 0, .ref kinds_70), (r0, 13, 2, .ref json_67), (fm, 4, 9, .int ql_59), (fm, 4, 8, .int qg_59), (fm, 4, 11, .int qv_59), (fm, 4, 4, .int qb_59), (fm, 4, 7, .int qf_59), (fm, 4, 2, .int qk_59), (fm, 4, 5, .int qp_59), (fm, 4, 6, .int qo_59), (fm, 4, 1, .int qn_59), (r0, 13, 4, .ref bo), (r0, 13, 3, .ref ou), (r0, 13, 0, .ref ta), (r0, 13, 1, .ref fm)]) [0, 3, 4, 6, 7, 8, 9, 10, 11, 12, 13, 14, 15, 16, 17, 18, 19, 20, 21, 22, 23, 24] rfl rfl (M1 := [(kinds_70, 140, 1502, ca 1, gk_63), (firsts_73, 141, 1502, ca 1, gi_63), (sizes_76, 142, 1502, ca 1, gz_63), (keyFirsts_79, 144, 1502, ca 1, ga_63), (keySizes_82, 145, 1502, ca 1, gs_63)]) [0, 1, 2, 3, 4] rfl rfl (I1 := [(jFdo, jDcc dC dI ca G_63 none ph_5)]) [2] rfl rfl).more hb_1526
                      have hNn_152 : (jNk [0, 1, 4, 5, 6, 7, 8, 9, 11, 12, 13, 14, 15, 16]) G0 G_152 := (hNn_63).tr hN_152
                      have hg_154 := hb_1522 _ _ hg_ret_115
                      have hg_155 := hb_1522 _ _ hg_88
                      have hg_156 := hb_1522 _ _ hg_id_118
                      have hg_157 := hb_1522 _ _ hg_89
                      have hg_158 := hb_1522 _ _ hg_90
                      have hg_159 := hb_1522 _ _ hg_91
                      have hg_160 := hb_1522 _ _ hg_92
                      have hg_161 := hb_1522 _ _ hg_93
                      have hg_162 := hb_1522 _ _ hg_94
                      have hg_163 := hb_1522 _ _ hg_95
                      have hg_164 := hb_1522 _ _ hg_96
                      have hg_165 := hb_1522 _ _ hg_97
                      have hg_166 := hb_1522 _ _ hg_98
                      have hd_167 := jDcc.grow (hh_152.iv 0 rfl) hb_1522 hE9_152 (by decide)
                      have hh_168 := hh_152.sub (L1 := [(bo, 2, 1, .int qc_152), (bo, 2, 0, .ref qa_152), (ret_115, 10, 0, .ref id_118), (json_67, 6, 7, .int qv_63), (json_67, 6, 8, .int qu_63), (json_67, 6, 5, .ref keySizes_82), (json_67, 6, 4, .ref keyFirsts_79), (json_67, 6, 2, .ref sizes_76), (json_67, 6, 1, .ref firsts_73), (json_67, 6, 0, .ref kinds_70), (r0, 13, 2, .ref json_67), (fm, 4, 9, .int ql_59), (fm, 4, 8, .int qg_59), (fm, 4, 11, .int qv_59), (fm, 4, 4, .int qb_59), (fm, 4, 7, .int qf_59), (fm, 4, 2, .int qk_59), (fm, 4, 5, .int qp_59), (fm, 4, 6, .int qo_59), (fm, 4, 1, .int qn_59), (r0, 13, 4, .ref bo), (r0, 13, 3, .ref ou), (r0, 13, 0, .ref ta), (r0, 13, 1, .ref fm)]) [0, 1, 2, 3, 4, 5, 6, 7, 8, 9, 10, 11, 12, 13, 14, 15, 16, 17, 18, 19, 20, 21, 22, 23] rfl (M1 := [(kinds_70, 140, 1502, ca 1, gk_63), (firsts_73, 141, 1502, ca 1, gi_63), (sizes_76, 142, 1502, ca 1, gz_63), (keyFirsts_79, 144, 1502, ca 1, ga_63), (keySizes_82, 145, 1502, ca 1, gs_63)]) [0, 1, 2, 3, 4] rfl (I1 := []) [] rfl
                      clear hh_152
                      have hh_169 := hh_168.addI (jDcc.ie hd_167)
                      clear hh_168
                      have hh_170 := hh_169.addIs hbE_152
                      have hh_171 := hh_170.more (P1 := [(ta, 2, 0, .ref row_27)]) (jP.cons hg_165 (hbO_152 _ _ _ _ (jn2 (by first | assumption | exact Ne.symm (by assumption) | exact jnek hg_97 hg_95 (by decide)) (by first | assumption | exact Ne.symm (by assumption) | exact jnek hg_97 hg_96 (by decide))) hg_97 (hh_117.at 1 rfl)) jP.nil)
                      have hg_172 := hb_1522 _ _ hg_111
                      have hd_173 := jOl.trL (hh_117.iv 0 rfl) hh_117.2.2.2.2.1 hbO_152 (by simp)
                      have hh_174 := hh_171.addI (jOl.ie (dC := dC) (dI := dI) (G0 := G0) (k := 2) (rs := [bo, ou, ta]) (H0 := s.heap) (F := [(2, 0), (2, 1)]) (C := RX0) (T := TX0) (N := 2) rfl (by decide) hh_171.2.2.2.2.1 (hd_173))
                      clear hh_171
                      try simp only at hr_153
                      obtain ⟨hr_153_0, hr_153_1, hr_153_2, hr_153_3, hr_153_4⟩ := hr_153
                      refine lv_goto (tgt := 101) hx hb dX11_give_90 (by decide) ?_
                      obtain ⟨z_175, ez_175⟩ : ∃ y : Int32, y = v2_5 + 1 := ⟨_, rfl⟩
                      refine lv_iinc (v := z_175) (lv' := [(2, .int z_175), (3, .ref ret_115), (0, .ref r0), (1, .int a1)]) hx hb dX11_give_101 hl (k := 3) rfl (by rw [ez_175]; rfl) (by decide) rfl (fun ls hl => ?_)
                      have hz_175 : z_175.toInt = v2_5.toInt + 1 := by rw [ez_175]; exact jb_iadd2 (rfl) (by decide) (by omega)
                      refine lv_goto (tgt := 19) hx hb dX11_give_104 (by decide) ?_
                      refine W.tight (c2 := ((zcx_5 + ((m_qa_63 - m_wr_5) / 16 + 11)) + ((m_qa_152 - m_qa_63) / 16 + 2))) (n2 := ((zsx_5 + (2 * (m_qa_63 - m_wr_5) + 267)) + (2 * (m_qa_152 - m_qa_63) + 40 + (qu_63.toInt : Int).toNat))) hh_174.2.2.2.2.2.1 hh_174.2.2.2.2.2.2.1 ?_
                      exact L19 G_152 ((zcx_5 + ((m_qa_63 - m_wr_5) / 16 + 11)) + ((m_qa_152 - m_qa_63) / 16 + 2)) ((zsx_5 + (2 * (m_qa_63 - m_wr_5) + 267)) + (2 * (m_qa_152 - m_qa_63) + 40 + (qu_63.toInt : Int).toNat)) z_175 qc_152 qa_152 m_qa_152 ql_59 qg_59 qv_59 qb_59 qf_59 qk_59 qp_59 qo_59 ph_5 _ _ (hh_174.sub (L1 := [(bo, 2, 1, .int qc_152), (bo, 2, 0, .ref qa_152), (fm, 4, 9, .int ql_59), (fm, 4, 8, .int qg_59), (fm, 4, 11, .int qv_59), (fm, 4, 4, .int qb_59), (fm, 4, 7, .int qf_59), (fm, 4, 2, .int qk_59), (fm, 4, 5, .int qp_59), (fm, 4, 6, .int qo_59), (r0, 13, 4, .ref bo), (r0, 13, 3, .ref ou), (r0, 13, 0, .ref ta), (r0, 13, 1, .ref fm)]) [1, 2, 12, 13, 14, 15, 16, 17, 18, 19, 21, 22, 23, 24] rfl (M1 := []) [] rfl (I1 := [([(2, 0), (2, 1)], jOl (dC, dI) G0 2 [bo, ou, ta] s.heap), (jFy, jYb dC dI G_152), (jFs11, jSef dC dI G_152), (jFl, jLs dC dI ca G_152 3 none), (jFdo, jDcc dC dI ca G_152 none ph_5)]) [0, 1, 2, 3, 4] rfl) (hNn_152) (((hle_5).tr hb_632).tr hb_1522) hgq_152_0 (⟨(by first | assumption | omega | rfl | fail), (by first | assumption | omega | rfl | fail), (by first | assumption | omega | rfl | fail), (by first | assumption | omega | rfl | fail), (by first | assumption | fail | omega), (by first | assumption | omega | rfl | fail), (by first | assumption | omega | rfl | fail), (by first | assumption | omega | rfl | fail), (by first | assumption | omega | rfl | fail), (by first | assumption | omega | rfl | fail), (by first | assumption | omega | rfl | fail), (by first | assumption | omega | rfl | fail), (by first | assumption | omega | rfl | fail), (by first | assumption | omega | rfl | fail), (by first | assumption | omega | rfl | fail), (by first | assumption | omega | rfl | fail), (by first | assumption | omega | rfl | fail), (by first | assumption | omega | rfl | fail), (by first | assumption | omega | rfl | fail), (by first | assumption | omega | rfl | fail), (by first | assumption | omega | rfl | fail), (by first | assumption | omega | rfl | fail), (by first | assumption | omega | rfl | fail), (by first | assumption | omega | rfl | fail)⟩) (by omega) _ (lv_sub hl [2, 3, 0] rfl)
      refine W.tight (c2 := 0) (n2 := 0) hh_1.2.2.2.2.2.1 hh_1.2.2.2.2.2.2.1 ?_
      exact L19 (a1.toInt - (0 : Int32).toInt : Int).toNat.succ G0 0 0 0 pc pa n_pa il sg sv br fi ke pl to ph _ _ (hh_1.sub (L1 := [(bo, 2, 1, .int pc), (bo, 2, 0, .ref pa), (fm, 4, 9, .int il), (fm, 4, 8, .int sg), (fm, 4, 11, .int sv), (fm, 4, 4, .int br), (fm, 4, 7, .int fi), (fm, 4, 2, .int ke), (fm, 4, 5, .int pl), (fm, 4, 6, .int to), (r0, 13, 4, .ref bo), (r0, 13, 3, .ref ou), (r0, 13, 0, .ref ta), (r0, 13, 1, .ref fm)]) [1, 2, 8, 9, 10, 11, 12, 13, 14, 15, 0, 3, 4, 7] rfl (M1 := []) [] rfl (I1 := [([(2, 0), (2, 1)], jOl (dC, dI) G0 2 [bo, ou, ta] s.heap), (jFy, jYb dC dI G0), (jFs11, jSef dC dI G0), (jFl, jLs dC dI ca G0 3 none), (jFdo, jDcc dC dI ca G0 none ph)]) [0, 1, 2, 3, 4] rfl) (jNk.rf) (jLe.rf) hg_pa (⟨(by first | assumption | omega | rfl | fail), (by first | assumption | omega | rfl | fail), (by first | assumption | omega | rfl | fail), (by first | assumption | omega | rfl | fail), (by first | assumption | fail | omega), (by first | assumption | omega | rfl | fail), (by first | assumption | omega | rfl | fail), (by first | assumption | omega | rfl | fail), (by first | assumption | omega | rfl | fail), (by first | assumption | omega | rfl | fail), (by first | assumption | omega | rfl | fail), (by first | assumption | omega | rfl | fail), (by first | assumption | omega | rfl | fail), (by first | assumption | omega | rfl | fail), (by first | assumption | omega | rfl | fail), (by first | assumption | omega | rfl | fail), (by first | assumption | omega | rfl | fail), (by first | assumption | omega | rfl | fail), (by first | assumption | omega | rfl | fail), (by first | assumption | omega | rfl | fail), (by first | assumption | omega | rfl | fail), (by first | assumption | omega | rfl | fail), (by first | assumption | omega | rfl | fail), (by first | assumption | omega | rfl | fail)⟩) (by omega) _ (lv_sub hl [1, 2, 0] rfl)
    · skip
      have c_4' : a1.toInt > pt.toInt := jb_le_n (rfl) (rfl) c_4
      refine lv_iconst (v := (-1)) hx hb dX11_give_15 (by decide) ?_
      have hsz_176 := hh_1.2.2.2.2.2.1
      have htt_176 := hh_1.2.2.2.2.2.2.1
      refine W.room (fun hrc_176 hrs_176 => ?_)
      refine W.widen (k := LC - s.heap.size) (n := LS - jTot s.heap) (by omega) (by omega) ?_
      rw [hQ]
      exact W.iret (v := (-1)) hx hb hr (fun t ht hW => ⟨⟨(-1), (pc, pt, il, sg, sv, br, fi, ke, pl, to, pa, n_pa, ph, (ph + 200 * ((pt.toInt : Int).toNat + (ke.toInt : Int).toNat)), G0), rfl, by (try dsimp only); exact ⟨(by first | assumption | omega | rfl | fail), (by first | assumption | omega | rfl | fail), (by first | assumption | omega | rfl | fail), (by first | assumption | omega | rfl | fail), (by first | assumption | fail | omega), (by first | assumption | omega | rfl | fail), (by first | assumption | omega | rfl | fail), (by first | assumption | omega | rfl | fail), (by first | assumption | omega | rfl | fail), (by first | assumption | omega | rfl | fail), (by first | assumption | omega | rfl | fail), (by first | assumption | omega | rfl | fail), (by first | assumption | omega | rfl | fail), (by first | assumption | omega | rfl | fail), (by first | assumption | omega | rfl | fail), (by first | assumption | omega | rfl | fail), (by first | assumption | omega | rfl | fail), (by first | assumption | omega | rfl | fail), (by first | assumption | omega | rfl | fail), (by first | assumption | omega | rfl | fail), (by first | assumption | omega | rfl | fail), (by first | assumption | omega | rfl | fail), (by first | assumption | omega | rfl | fail)⟩, ⟨hh_1.ra (by first | (simp only; omega) | omega) (by first | (simp only; omega) | omega) (M1 := [(bo, 2, 1, .int pc), (ta, 2, 1, .int pt), (fm, 4, 9, .int il), (fm, 4, 8, .int sg), (fm, 4, 11, .int sv), (fm, 4, 4, .int br), (fm, 4, 7, .int fi), (fm, 4, 2, .int ke), (fm, 4, 5, .int pl), (fm, 4, 6, .int to), (bo, 2, 0, .ref pa)]) [1, 5, 8, 9, 10, 11, 12, 13, 14, 15, 2] rfl ht, hg_pa, jNk.rf, by rw [ht]; exact hh_1.iv 0 rfl, by rw [ht]; exact hh_1.2.2.2.2.2.2.2.2.sub (L1 := [(jFy, jYb dC dI G0), (jFs11, jSef dC dI G0), (jFl, jLs dC dI ca G0 3 none), (jFdo, jDcc dC dI ca G0 none ph)]) [1, 2, 3, 4] rfl⟩⟩, by rw [ht]; try exact hh_1.1.1, fun q h9 hq => by rw [ht]; try exact hh_1.1.2.1 q h9 hq⟩) hh_1.1.2.2 dX11_give_16
