section
theorem dX11_init_0 : decode cX11_init 0 = .ok (.aload_n 0, 1) := by decide +kernel
theorem dX11_init_1 : decode cX11_init 1 = .ok (.invokespecial 1, 3) := by decide +kernel
theorem dX11_init_4 : decode cX11_init 4 = .ok (.aload_n 0, 1) := by decide +kernel
theorem dX11_init_5 : decode cX11_init 5 = .ok (.new 7, 3) := by decide +kernel
theorem dX11_init_8 : decode cX11_init 8 = .ok (.dup, 1) := by decide +kernel
theorem dX11_init_9 : decode cX11_init 9 = .ok (.sipush 4000, 3) := by decide +kernel
theorem dX11_init_12 : decode cX11_init 12 = .ok (.invokespecial 11, 3) := by decide +kernel
theorem dX11_init_15 : decode cX11_init 15 = .ok (.putfield 14, 3) := by decide +kernel
theorem dX11_init_18 : decode cX11_init 18 = .ok (.aload_n 0, 1) := by decide +kernel
theorem dX11_init_19 : decode cX11_init 19 = .ok (.new 18, 3) := by decide +kernel
theorem dX11_init_22 : decode cX11_init 22 = .ok (.dup, 1) := by decide +kernel
theorem dX11_init_23 : decode cX11_init 23 = .ok (.invokespecial 20, 3) := by decide +kernel
theorem dX11_init_26 : decode cX11_init 26 = .ok (.putfield 21, 3) := by decide +kernel
theorem dX11_init_29 : decode cX11_init 29 = .ok (.aload_n 0, 1) := by decide +kernel
theorem dX11_init_30 : decode cX11_init 30 = .ok (.new 25, 3) := by decide +kernel
theorem dX11_init_33 : decode cX11_init 33 = .ok (.dup, 1) := by decide +kernel
theorem dX11_init_34 : decode cX11_init 34 = .ok (.invokespecial 27, 3) := by decide +kernel
theorem dX11_init_37 : decode cX11_init 37 = .ok (.putfield 28, 3) := by decide +kernel
theorem dX11_init_40 : decode cX11_init 40 = .ok (.aload_n 0, 1) := by decide +kernel
theorem dX11_init_41 : decode cX11_init 41 = .ok (.new 7, 3) := by decide +kernel
theorem dX11_init_44 : decode cX11_init 44 = .ok (.dup, 1) := by decide +kernel
theorem dX11_init_45 : decode cX11_init 45 = .ok (.sipush 20000, 3) := by decide +kernel
theorem dX11_init_48 : decode cX11_init 48 = .ok (.invokespecial 11, 3) := by decide +kernel
theorem dX11_init_51 : decode cX11_init 51 = .ok (.putfield 32, 3) := by decide +kernel
theorem dX11_init_54 : decode cX11_init 54 = .ok (.aload_n 0, 1) := by decide +kernel
theorem dX11_init_55 : decode cX11_init 55 = .ok (.new 7, 3) := by decide +kernel
theorem dX11_init_58 : decode cX11_init 58 = .ok (.dup, 1) := by decide +kernel
theorem dX11_init_59 : decode cX11_init 59 = .ok (.sipush 1024, 3) := by decide +kernel
theorem dX11_init_62 : decode cX11_init 62 = .ok (.invokespecial 11, 3) := by decide +kernel
theorem dX11_init_65 : decode cX11_init 65 = .ok (.putfield 35, 3) := by decide +kernel
theorem dX11_init_68 : decode cX11_init 68 = .ok (.aload_n 0, 1) := by decide +kernel
theorem dX11_init_69 : decode cX11_init 69 = .ok (.new 38, 3) := by decide +kernel
theorem dX11_init_72 : decode cX11_init 72 = .ok (.dup, 1) := by decide +kernel
theorem dX11_init_73 : decode cX11_init 73 = .ok (.invokespecial 40, 3) := by decide +kernel
theorem dX11_init_76 : decode cX11_init 76 = .ok (.putfield 41, 3) := by decide +kernel
theorem dX11_init_79 : decode cX11_init 79 = .ok (.aload_n 0, 1) := by decide +kernel
theorem dX11_init_80 : decode cX11_init 80 = .ok (.new 45, 3) := by decide +kernel
theorem dX11_init_83 : decode cX11_init 83 = .ok (.dup, 1) := by decide +kernel
theorem dX11_init_84 : decode cX11_init 84 = .ok (.aload_n 0, 1) := by decide +kernel
theorem dX11_init_85 : decode cX11_init 85 = .ok (.getfield 41, 3) := by decide +kernel
theorem dX11_init_88 : decode cX11_init 88 = .ok (.getfield 47, 3) := by decide +kernel
theorem dX11_init_91 : decode cX11_init 91 = .ok (.invokespecial 51, 3) := by decide +kernel
theorem dX11_init_94 : decode cX11_init 94 = .ok (.putfield 54, 3) := by decide +kernel
theorem dX11_init_97 : decode cX11_init 97 = .ok (.aload_n 0, 1) := by decide +kernel
theorem dX11_init_98 : decode cX11_init 98 = .ok (.new 58, 3) := by decide +kernel
theorem dX11_init_101 : decode cX11_init 101 = .ok (.dup, 1) := by decide +kernel
theorem dX11_init_102 : decode cX11_init 102 = .ok (.invokespecial 60, 3) := by decide +kernel
theorem dX11_init_105 : decode cX11_init 105 = .ok (.putfield 61, 3) := by decide +kernel
theorem dX11_init_108 : decode cX11_init 108 = .ok (.aload_n 0, 1) := by decide +kernel
theorem dX11_init_109 : decode cX11_init 109 = .ok (.new 58, 3) := by decide +kernel
theorem dX11_init_112 : decode cX11_init 112 = .ok (.dup, 1) := by decide +kernel
theorem dX11_init_113 : decode cX11_init 113 = .ok (.invokespecial 60, 3) := by decide +kernel
theorem dX11_init_116 : decode cX11_init 116 = .ok (.putfield 65, 3) := by decide +kernel
theorem dX11_init_119 : decode cX11_init 119 = .ok (.aload_n 0, 1) := by decide +kernel
theorem dX11_init_120 : decode cX11_init 120 = .ok (.new 58, 3) := by decide +kernel
theorem dX11_init_123 : decode cX11_init 123 = .ok (.dup, 1) := by decide +kernel
theorem dX11_init_124 : decode cX11_init 124 = .ok (.invokespecial 60, 3) := by decide +kernel
theorem dX11_init_127 : decode cX11_init 127 = .ok (.putfield 68, 3) := by decide +kernel
theorem dX11_init_130 : decode cX11_init 130 = .ok (.aload_n 0, 1) := by decide +kernel
theorem dX11_init_131 : decode cX11_init 131 = .ok (.iconst 2, 1) := by decide +kernel
theorem dX11_init_132 : decode cX11_init 132 = .ok (.anewarray 71, 3) := by decide +kernel
theorem dX11_init_135 : decode cX11_init 135 = .ok (.putfield 73, 3) := by decide +kernel
theorem dX11_init_138 : decode cX11_init 138 = .ok (.aload_n 0, 1) := by decide +kernel
theorem dX11_init_139 : decode cX11_init 139 = .ok (.iconst 0, 1) := by decide +kernel
theorem dX11_init_140 : decode cX11_init 140 = .ok (.putfield 77, 3) := by decide +kernel
theorem dX11_init_143 : decode cX11_init 143 = .ok (.aload_n 0, 1) := by decide +kernel
theorem dX11_init_144 : decode cX11_init 144 = .ok (.new 71, 3) := by decide +kernel
theorem dX11_init_147 : decode cX11_init 147 = .ok (.dup, 1) := by decide +kernel
theorem dX11_init_148 : decode cX11_init 148 = .ok (.invokespecial 81, 3) := by decide +kernel
theorem dX11_init_151 : decode cX11_init 151 = .ok (.putfield 82, 3) := by decide +kernel
theorem dX11_init_154 : decode cX11_init 154 = .ok (.aload_n 0, 1) := by decide +kernel
theorem dX11_init_155 : decode cX11_init 155 = .ok (.new 7, 3) := by decide +kernel
theorem dX11_init_158 : decode cX11_init 158 = .ok (.dup, 1) := by decide +kernel
theorem dX11_init_159 : decode cX11_init 159 = .ok (.sipush 256, 3) := by decide +kernel
theorem dX11_init_162 : decode cX11_init 162 = .ok (.invokespecial 11, 3) := by decide +kernel
theorem dX11_init_165 : decode cX11_init 165 = .ok (.putfield 86, 3) := by decide +kernel
theorem dX11_init_168 : decode cX11_init 168 = .ok (.aload_n 0, 1) := by decide +kernel
theorem dX11_init_169 : decode cX11_init 169 = .ok (.bipush (-2), 2) := by decide +kernel
theorem dX11_init_171 : decode cX11_init 171 = .ok (.putfield 89, 3) := by decide +kernel
theorem dX11_init_174 : decode cX11_init 174 = .ok (.return_, 1) := by decide +kernel
def EX11_initU : List (Nat × Nat) := [(8, 3), (101, 0), (102, 0), (132, 0), (133, 0)]
set_option maxHeartbeats 40000000 in
set_option maxRecDepth 20000 in
theorem uX11_initU (l : Launch) (dC : Nat → ClassId) (dI : Nat → Nat → Nat) (ca : Nat → ClassId) (base : Nat) (B : jF) (hB : jBok B) (hAp : jAp (dC, dI)) (hB1 : ∀ n G a H, B 1 n G a H ↔ jOb (dC, dI) 1 3 (F1 n G) a H) (hB2 : ∀ n G a H, B 2 n G a H ↔ jOb (dC, dI) 2 2 (F2 n G) a H) (hB3 : ∀ n G a H, B 3 n G a H ↔ jOb (dC, dI) 3 17 (F3 n G) a H) (hB4 : ∀ n G a H, B 4 n G a H ↔ jOb (dC, dI) 4 12 (F4 n G) a H) (hB5 : ∀ n G a H, B 5 n G a H ↔ jOb (dC, dI) 5 4 (F5 n G) a H) (hB6 : ∀ n G a H, B 6 n G a H ↔ jOb (dC, dI) 6 12 (F6 n G) a H) (hB7 : ∀ n G a H, B 7 n G a H ↔ jOb (dC, dI) 7 11 (F7 n G) a H) (hB8 : ∀ n G a H, B 8 n G a H ↔ jOb (dC, dI) 8 4 (F8 n G) a H) (hB9 : ∀ n G a H, B 9 n G a H ↔ jOb (dC, dI) 9 5 (F9b n G) a H) (hB11 : ∀ n G a H, B 11 n G a H ↔ jOb (dC, dI) 11 9 (F11 n G) a H) (hB12 : ∀ n G a H, B 12 n G a H ↔ jOb (dC, dI) 12 11 (F12b n G) a H) (hB13 : ∀ n G a H, B 13 n G a H ↔ jOb (dC, dI) 13 19 (F13 n G) a H) (hB100 : ∀ n G a H, B 100 n G a H ↔ jAr (dC, dI) (ca 0) (fun j z => True) n a H) (hB101 : ∀ n G a H, B 101 n G a H ↔ jAr (dC, dI) (ca 1) (fun j z => True) n a H) (hB102 : ∀ n G a H, B 102 n G a H ↔ jAl (dC, dI) (ca 2) n a H) (hB132 : ∀ n G a H, B 132 n G a H ↔ jAr (dC, dI) (ca 1) (fun j z => 0 ≤ z.toInt ∧ z.toInt ≤ 10) n a H) (hB133 : ∀ n G a H, B 133 n G a H ↔ jAr (dC, dI) (ca 1) (fun j z => 0 ≤ z.toInt ∧ z.toInt ≤ 8192) n a H) (hB140 : ∀ n G a H, B 140 n G a H ↔ jAr (dC, dI) (ca 1) (fun j z => True) n a H) (hB141 : ∀ n G a H, B 141 n G a H ↔ jAr (dC, dI) (ca 1) (fun j z => True) n a H) (hB142 : ∀ n G a H, B 142 n G a H ↔ jAr (dC, dI) (ca 1) (fun j z => True) n a H) (hB143 : ∀ n G a H, B 143 n G a H ↔ jAr (dC, dI) (ca 1) (fun j z => True) n a H) (hB144 : ∀ n G a H, B 144 n G a H ↔ jAr (dC, dI) (ca 1) (fun j z => 0 ≤ z.toInt ∧ z.toInt ≤ 3000) n a H) (hB145 : ∀ n G a H, B 145 n G a H ↔ jAr (dC, dI) (ca 1) (fun j z => True) n a H) (hB146 : ∀ n G a H, B 146 n G a H ↔ jAr (dC, dI) (ca 1) (fun j z => True) n a H) (hB171 : ∀ n G a H, B 171 n G a H ↔ jAr (dC, dI) (ca 1) (fun j z => 0 ≤ z.toInt ∧ z.toInt ≤ 1500) n a H) (hB172 : ∀ n G a H, B 172 n G a H ↔ jAr (dC, dI) (ca 1) (fun j z => 0 ≤ z.toInt ∧ z.toInt ≤ 1500) n a H) (hB173 : ∀ n G a H, B 173 n G a H ↔ jAr (dC, dI) (ca 1) (fun j z => True) n a H) (hB174 : ∀ n G a H, B 174 n G a H ↔ jAr (dC, dI) (ca 1) (fun j z => True) n a H) (hB196 : ∀ n G a H, B 196 n G a H ↔ jAr (dC, dI) (ca 0) (fun j z => jBf j z) n a H) (hB197 : ∀ n G a H, B 197 n G a H ↔ jAr (dC, dI) (ca 0) (fun j z => jBf j z) n a H) (hB210 : ∀ n G a H, B 210 n G a H ↔ jAq (dC, dI) (ca 6) (jQn 11 0) n G a H) (hB211 : ∀ n G a H, B 211 n G a H ↔ jAq (dC, dI) (ca 7) (jQh) n G a H) (hB212 : ∀ n G a H, B 212 n G a H ↔ jAq (dC, dI) (ca 5) (jQn 3 0) n G a H) (hB214 : ∀ n G a H, B 214 n G a H ↔ jAq (dC, dI) (ca 7) (jQg) n G a H) (hB280 : ∀ n G a H, B 280 n G a H ↔ jAr (dC, dI) (ca 1) (fun j z => -1 ≤ z.toInt) n a H) (hB286 : ∀ n G a H, B 286 n G a H ↔ jAr (dC, dI) (ca 1) (fun j z => (0 ≤ z.toInt ∨ z.toInt = -3)) n a H) (hB287 : ∀ n G a H, B 287 n G a H ↔ jAr (dC, dI) (ca 1) (fun j z => 0 ≤ z.toInt ∧ z.toInt ≤ 65535) n a H) (hB288 : ∀ n G a H, B 288 n G a H ↔ jAr (dC, dI) (ca 1) (fun j z => 0 ≤ z.toInt ∧ z.toInt ≤ 160) n a H) (hB290 : ∀ n G a H, B 290 n G a H ↔ jAr (dC, dI) (ca 1) (fun j z => 0 ≤ z.toInt ∧ z.toInt ≤ 3000) n a H) (hB291 : ∀ n G a H, B 291 n G a H ↔ jAr (dC, dI) (ca 1) (fun j z => 0 ≤ z.toInt ∧ z.toInt ≤ 3000) n a H) (hB292 : ∀ n G a H, B 292 n G a H ↔ jAr (dC, dI) (ca 1) (fun j z => 0 ≤ z.toInt ∧ z.toInt ≤ 8191) n a H) (hB293 : ∀ n G a H, B 293 n G a H ↔ jAr (dC, dI) (ca 1) (fun j z => -1 ≤ z.toInt ∧ z.toInt ≤ 8191) n a H) (hB313 : ∀ n G a H, B 313 n G a H ↔ jAq (dC, dI) (ca 8) (jQk 280 80) n G a H) (G0 : jT) (H0 : Heap) (r0 : Nat) (ph : Nat) (wl : jWl9) (tq : jDtl) (LC LS : Nat) : Met l yX11_init (jw yX11_init cX11_init 1 none) ({ frames := 6, cells := LC - H0.size, slots := LS - jTot H0, locals := 184 }) (va_Pc [.ref r0] (fun U => U.heap = H0 ∧ jX B base G0 [] H0 ∧ jG dC dI ca base U ∧ jK2 dC dI ca U ∧ jK5 dC dI ca U ∧ jK6 U ∧ jK7 dC dI ca base U ∧ va_at (dC, dI) vwCl (r0, .inr (13, [.null, .null, .null, .null, .null, .null, .null, .null, .null, .null, .null, .int 0, .int 0, .int 0, .int 0, .null, .null, .null, .int 0])) H0 ∧ (∀ t, G0 r0 ≠ some t) ∧ base ≤ r0 ∧ jP (dC, dI) G0 H0 [] ∧ jIs (dC, dI) G0 H0 [(jFy, jYb dC dI G0), (jFs11, jSef dC dI G0), (jFl, jLs dC dI ca G0 0 none wl), (jFdo, jDcc dC dI ca G0 none ph), (jFcd, jCD dC dI ca G0 none tq)] ∧ H0.size + 60 ≤ LC ∧ jTot H0 + 81884 ≤ LS ∧ jdIv tq (0, wl.2))) (va_Qv (S := Int32 × Int32 × Int32 × Int32 × Int32 × Int32 × Int32 × Int32 × Int32 × Int32 × Int32 × Nat × Nat × Nat × Nat × Nat × Nat × Nat × Nat × Nat × Nat × (Nat → Int32) × jDtl × jT) (fun u => u.2.2.2.2.2.2.2.2.2.2.2.2.2.2.2.1 ≠ u.2.2.2.2.2.2.2.2.2.2.2.2.2.2.2.2.2.1 ∧ u.2.2.2.2.2.2.2.2.2.2.2.2.2.2.2.2.1 = 0 ∧ u.2.2.2.2.2.2.2.2.2.2.2.2.2.2.2.2.2.2.1 = 0 ∧ u.2.2.2.2.2.2.2.2.2.2.2.2.1 = 4000 ∧ u.2.2.2.2.2.2.2.2.2.2.2.2.2.2.1 = 0 ∧ u.1.toInt = 0 ∧ u.2.1.toInt = 0 ∧ u.2.2.1.toInt = 0 ∧ u.2.2.2.1.toInt = -1 ∧ u.2.2.2.2.1.toInt = 0 ∧ u.2.2.2.2.2.1.toInt = 0 ∧ u.2.2.2.2.2.2.1.toInt = 0 ∧ u.2.2.2.2.2.2.2.1.toInt = 0 ∧ u.2.2.2.2.2.2.2.2.1.toInt = 0 ∧ u.2.2.2.2.2.2.2.2.2.1.toInt = 0 ∧ u.2.2.2.2.2.2.2.2.2.2.1.toInt = 0 ∧ u.2.2.2.2.2.2.2.2.2.2.2.2.2.2.2.2.2.2.2.2.1 = 3000 ∧ u.2.2.2.2.2.2.2.2.2.2.2.2.2.2.2.2.2.2.2.2.2.1 = (fun _ => 0) ∧ jdIv u.2.2.2.2.2.2.2.2.2.2.2.2.2.2.2.2.2.2.2.2.2.2.1 (0, wl.2)) (fun u t => jRa (dC, dI) B base G0 u.2.2.2.2.2.2.2.2.2.2.2.2.2.2.2.2.2.2.2.2.2.2.2 EX11_initU H0 (60) (81884) [(u.2.2.2.2.2.2.2.2.2.2.2.1, 2, 1, .int u.1), (u.2.2.2.2.2.2.2.2.2.2.2.2.2.1, 4, 4, .int u.2.1), (u.2.2.2.2.2.2.2.2.2.2.2.2.2.1, 4, 5, .int u.2.2.1), (u.2.2.2.2.2.2.2.2.2.2.2.2.2.1, 4, 6, .int u.2.2.2.1), (u.2.2.2.2.2.2.2.2.2.2.2.2.2.1, 4, 2, .int u.2.2.2.2.1), (u.2.2.2.2.2.2.2.2.2.2.2.2.2.1, 4, 8, .int u.2.2.2.2.2.1), (u.2.2.2.2.2.2.2.2.2.2.2.2.2.1, 4, 9, .int u.2.2.2.2.2.2.1), (u.2.2.2.2.2.2.2.2.2.2.2.2.2.1, 4, 10, .int u.2.2.2.2.2.2.2.1), (u.2.2.2.2.2.2.2.2.2.2.2.2.2.1, 4, 11, .int u.2.2.2.2.2.2.2.2.1), (u.2.2.2.2.2.2.2.2.2.2.2.2.2.1, 4, 7, .int u.2.2.2.2.2.2.2.2.2.1), (r0, 13, 11, .int u.2.2.2.2.2.2.2.2.2.2.1), (r0, 13, 0, .ref u.2.2.2.2.2.2.2.2.2.2.2.1), (r0, 13, 1, .ref u.2.2.2.2.2.2.2.2.2.2.2.2.2.1), (r0, 13, 4, .ref u.2.2.2.2.2.2.2.2.2.2.2.2.2.2.2.1), (r0, 13, 17, .ref u.2.2.2.2.2.2.2.2.2.2.2.2.2.2.2.2.2.1), (u.2.2.2.2.2.2.2.2.2.2.2.2.2.1, 4, 0, .ref u.2.2.2.2.2.2.2.2.2.2.2.2.2.2.2.2.2.2.2.1)] t.heap ∧ u.2.2.2.2.2.2.2.2.2.2.2.2.2.2.2.2.2.2.2.2.2.2.2 u.2.2.2.2.2.2.2.2.2.2.2.1 = some (2, u.2.2.2.2.2.2.2.2.2.2.2.2.1) ∧ u.2.2.2.2.2.2.2.2.2.2.2.2.2.2.2.2.2.2.2.2.2.2.2 u.2.2.2.2.2.2.2.2.2.2.2.2.2.1 = some (4, u.2.2.2.2.2.2.2.2.2.2.2.2.2.2.1) ∧ u.2.2.2.2.2.2.2.2.2.2.2.2.2.2.2.2.2.2.2.2.2.2.2 u.2.2.2.2.2.2.2.2.2.2.2.2.2.2.2.1 = some (2, u.2.2.2.2.2.2.2.2.2.2.2.2.2.2.2.2.1) ∧ u.2.2.2.2.2.2.2.2.2.2.2.2.2.2.2.2.2.2.2.2.2.2.2 u.2.2.2.2.2.2.2.2.2.2.2.2.2.2.2.2.2.1 = some (2, u.2.2.2.2.2.2.2.2.2.2.2.2.2.2.2.2.2.2.1) ∧ u.2.2.2.2.2.2.2.2.2.2.2.2.2.2.2.2.2.2.2.2.2.2.2 u.2.2.2.2.2.2.2.2.2.2.2.2.2.2.2.2.2.2.2.1 = some (100, u.2.2.2.2.2.2.2.2.2.2.2.2.2.2.2.2.2.2.2.2.1) ∧ (jNk [0, 5, 10, 14, 15, 16]) G0 u.2.2.2.2.2.2.2.2.2.2.2.2.2.2.2.2.2.2.2.2.2.2.2 ∧ u.2.2.2.2.2.2.2.2.2.2.2.2.2.2.2.2.2.2.2.2.2.2.2 r0 = some (13, 0) ∧ jKx r0 G0 u.2.2.2.2.2.2.2.2.2.2.2.2.2.2.2.2.2.2.2.2.2.2.2 H0 t.heap ∧ jIs (dC, dI) u.2.2.2.2.2.2.2.2.2.2.2.2.2.2.2.2.2.2.2.2.2.2.2 t.heap [(jFy, jYb dC dI u.2.2.2.2.2.2.2.2.2.2.2.2.2.2.2.2.2.2.2.2.2.2.2), (jFs11, jSef dC dI u.2.2.2.2.2.2.2.2.2.2.2.2.2.2.2.2.2.2.2.2.2.2.2), (jFl, jLs dC dI ca u.2.2.2.2.2.2.2.2.2.2.2.2.2.2.2.2.2.2.2.2.2.2.2 3 none (0, wl.2)), (jFdo, jDcc dC dI ca u.2.2.2.2.2.2.2.2.2.2.2.2.2.2.2.2.2.2.2.2.2.2.2 none (ph + 1500)), (jFcd, jCD dC dI ca u.2.2.2.2.2.2.2.2.2.2.2.2.2.2.2.2.2.2.2.2.2.2.2 none (u.2.2.2.2.2.2.2.2.2.2.2.2.2.2.2.2.2.2.2.2.2.2.1))] ∧ jMc (dC, dI) u.2.2.2.2.2.2.2.2.2.2.2.2.2.2.2.2.2.2.2.2.2.2.2 t.heap [(u.2.2.2.2.2.2.2.2.2.2.2.2.2.2.2.2.2.2.2.1, 100, u.2.2.2.2.2.2.2.2.2.2.2.2.2.2.2.2.2.2.2.2.1, ca 0, u.2.2.2.2.2.2.2.2.2.2.2.2.2.2.2.2.2.2.2.2.2.1)]) (jA base)) (LC - H0.size) (LS - jTot H0) (jA base) := by
  refine Met.ofW (cc := cX11_init) (maxL := 1) (ret := none) (by decide) rfl ?_
  intro p e s m args below meth c s₁ Bd hml hv
  obtain ⟨rfl, hH0, hX, hG, hK2, hK5, hK6, hK7, hraw0, hnr0, hbr0, hP0, hI0, hLC0, hLS0, hp0⟩ := hv
  have hK := hG.1
  have hx := Bd.exec
  have hb := Bd.bytes
  have hr := Bd.returns
  have hts := atoms_spec (ws := (jw yX11_init cX11_init 1 none)) Bd.pre
  have htw : ∀ w ∈ jWl, w.before _ s = true := fun w h => hts w (List.mem_cons_of_mem _ h)
  have hown : s.vm.findClass RX11 = some m.cls := findClass_of_methodNamed Bd.named
  have hlocks := Bd.notSynchronized
  obtain ⟨Q, hQ⟩ : ∃ Q, Q = MQ below (va_Qv (S := Int32 × Int32 × Int32 × Int32 × Int32 × Int32 × Int32 × Int32 × Int32 × Int32 × Int32 × Nat × Nat × Nat × Nat × Nat × Nat × Nat × Nat × Nat × Nat × (Nat → Int32) × jDtl × jT) (fun u => u.2.2.2.2.2.2.2.2.2.2.2.2.2.2.2.1 ≠ u.2.2.2.2.2.2.2.2.2.2.2.2.2.2.2.2.2.1 ∧ u.2.2.2.2.2.2.2.2.2.2.2.2.2.2.2.2.1 = 0 ∧ u.2.2.2.2.2.2.2.2.2.2.2.2.2.2.2.2.2.2.1 = 0 ∧ u.2.2.2.2.2.2.2.2.2.2.2.2.1 = 4000 ∧ u.2.2.2.2.2.2.2.2.2.2.2.2.2.2.1 = 0 ∧ u.1.toInt = 0 ∧ u.2.1.toInt = 0 ∧ u.2.2.1.toInt = 0 ∧ u.2.2.2.1.toInt = -1 ∧ u.2.2.2.2.1.toInt = 0 ∧ u.2.2.2.2.2.1.toInt = 0 ∧ u.2.2.2.2.2.2.1.toInt = 0 ∧ u.2.2.2.2.2.2.2.1.toInt = 0 ∧ u.2.2.2.2.2.2.2.2.1.toInt = 0 ∧ u.2.2.2.2.2.2.2.2.2.1.toInt = 0 ∧ u.2.2.2.2.2.2.2.2.2.2.1.toInt = 0 ∧ u.2.2.2.2.2.2.2.2.2.2.2.2.2.2.2.2.2.2.2.2.1 = 3000 ∧ u.2.2.2.2.2.2.2.2.2.2.2.2.2.2.2.2.2.2.2.2.2.1 = (fun _ => 0) ∧ jdIv u.2.2.2.2.2.2.2.2.2.2.2.2.2.2.2.2.2.2.2.2.2.2.1 (0, wl.2)) (fun u t => jRa (dC, dI) B base G0 u.2.2.2.2.2.2.2.2.2.2.2.2.2.2.2.2.2.2.2.2.2.2.2 EX11_initU H0 (60) (81884) [(u.2.2.2.2.2.2.2.2.2.2.2.1, 2, 1, .int u.1), (u.2.2.2.2.2.2.2.2.2.2.2.2.2.1, 4, 4, .int u.2.1), (u.2.2.2.2.2.2.2.2.2.2.2.2.2.1, 4, 5, .int u.2.2.1), (u.2.2.2.2.2.2.2.2.2.2.2.2.2.1, 4, 6, .int u.2.2.2.1), (u.2.2.2.2.2.2.2.2.2.2.2.2.2.1, 4, 2, .int u.2.2.2.2.1), (u.2.2.2.2.2.2.2.2.2.2.2.2.2.1, 4, 8, .int u.2.2.2.2.2.1), (u.2.2.2.2.2.2.2.2.2.2.2.2.2.1, 4, 9, .int u.2.2.2.2.2.2.1), (u.2.2.2.2.2.2.2.2.2.2.2.2.2.1, 4, 10, .int u.2.2.2.2.2.2.2.1), (u.2.2.2.2.2.2.2.2.2.2.2.2.2.1, 4, 11, .int u.2.2.2.2.2.2.2.2.1), (u.2.2.2.2.2.2.2.2.2.2.2.2.2.1, 4, 7, .int u.2.2.2.2.2.2.2.2.2.1), (r0, 13, 11, .int u.2.2.2.2.2.2.2.2.2.2.1), (r0, 13, 0, .ref u.2.2.2.2.2.2.2.2.2.2.2.1), (r0, 13, 1, .ref u.2.2.2.2.2.2.2.2.2.2.2.2.2.1), (r0, 13, 4, .ref u.2.2.2.2.2.2.2.2.2.2.2.2.2.2.2.1), (r0, 13, 17, .ref u.2.2.2.2.2.2.2.2.2.2.2.2.2.2.2.2.2.1), (u.2.2.2.2.2.2.2.2.2.2.2.2.2.1, 4, 0, .ref u.2.2.2.2.2.2.2.2.2.2.2.2.2.2.2.2.2.2.2.1)] t.heap ∧ u.2.2.2.2.2.2.2.2.2.2.2.2.2.2.2.2.2.2.2.2.2.2.2 u.2.2.2.2.2.2.2.2.2.2.2.1 = some (2, u.2.2.2.2.2.2.2.2.2.2.2.2.1) ∧ u.2.2.2.2.2.2.2.2.2.2.2.2.2.2.2.2.2.2.2.2.2.2.2 u.2.2.2.2.2.2.2.2.2.2.2.2.2.1 = some (4, u.2.2.2.2.2.2.2.2.2.2.2.2.2.2.1) ∧ u.2.2.2.2.2.2.2.2.2.2.2.2.2.2.2.2.2.2.2.2.2.2.2 u.2.2.2.2.2.2.2.2.2.2.2.2.2.2.2.1 = some (2, u.2.2.2.2.2.2.2.2.2.2.2.2.2.2.2.2.1) ∧ u.2.2.2.2.2.2.2.2.2.2.2.2.2.2.2.2.2.2.2.2.2.2.2 u.2.2.2.2.2.2.2.2.2.2.2.2.2.2.2.2.2.1 = some (2, u.2.2.2.2.2.2.2.2.2.2.2.2.2.2.2.2.2.2.1) ∧ u.2.2.2.2.2.2.2.2.2.2.2.2.2.2.2.2.2.2.2.2.2.2.2 u.2.2.2.2.2.2.2.2.2.2.2.2.2.2.2.2.2.2.2.1 = some (100, u.2.2.2.2.2.2.2.2.2.2.2.2.2.2.2.2.2.2.2.2.1) ∧ (jNk [0, 5, 10, 14, 15, 16]) G0 u.2.2.2.2.2.2.2.2.2.2.2.2.2.2.2.2.2.2.2.2.2.2.2 ∧ u.2.2.2.2.2.2.2.2.2.2.2.2.2.2.2.2.2.2.2.2.2.2.2 r0 = some (13, 0) ∧ jKx r0 G0 u.2.2.2.2.2.2.2.2.2.2.2.2.2.2.2.2.2.2.2.2.2.2.2 H0 t.heap ∧ jIs (dC, dI) u.2.2.2.2.2.2.2.2.2.2.2.2.2.2.2.2.2.2.2.2.2.2.2 t.heap [(jFy, jYb dC dI u.2.2.2.2.2.2.2.2.2.2.2.2.2.2.2.2.2.2.2.2.2.2.2), (jFs11, jSef dC dI u.2.2.2.2.2.2.2.2.2.2.2.2.2.2.2.2.2.2.2.2.2.2.2), (jFl, jLs dC dI ca u.2.2.2.2.2.2.2.2.2.2.2.2.2.2.2.2.2.2.2.2.2.2.2 3 none (0, wl.2)), (jFdo, jDcc dC dI ca u.2.2.2.2.2.2.2.2.2.2.2.2.2.2.2.2.2.2.2.2.2.2.2 none (ph + 1500)), (jFcd, jCD dC dI ca u.2.2.2.2.2.2.2.2.2.2.2.2.2.2.2.2.2.2.2.2.2.2.2 none (u.2.2.2.2.2.2.2.2.2.2.2.2.2.2.2.2.2.2.2.2.2.2.1))] ∧ jMc (dC, dI) u.2.2.2.2.2.2.2.2.2.2.2.2.2.2.2.2.2.2.2.2.2.2.2 t.heap [(u.2.2.2.2.2.2.2.2.2.2.2.2.2.2.2.2.2.2.2.1, 100, u.2.2.2.2.2.2.2.2.2.2.2.2.2.2.2.2.2.2.2.2.1, ca 0, u.2.2.2.2.2.2.2.2.2.2.2.2.2.2.2.2.2.2.2.2.2.1)]) (jA base)) ([.ref r0] : List Value).toArray s (LC - H0.size) (LS - jTot H0) (jA base) := ⟨_, rfl⟩
  rw [← hQ]
  have hl := lv_entry ([.ref r0]) (n := 1) (Nat.le_of_ble_eq_true rfl)
  rw [lg_entry_eq]
  generalize (lg_sl ([.ref r0]) ++ List.replicate (1 - (lg_sl ([.ref r0])).length) Slot.unset).toArray = ls at hl ⊢
  have hl : lv_has ls 1 [(0, .ref r0)] := hl
  generalize hR : (headSpec (jw yX11_init cX11_init 1 none) ({ frames := 6, cells := LC - H0.size, slots := LS - jTot H0, locals := 184 })).room = R
  subst hH0
  have hh : jSt (dC, dI) B base G0 G0 EX11_initU s.heap 0 0 [] [] [(jFy, jYb dC dI G0), (jFs11, jSef dC dI G0), (jFl, jLs dC dI ca G0 0 none wl), (jFdo, jDcc dC dI ca G0 none ph), (jFcd, jCD dC dI ca G0 none tq)] s.heap [] := jSt.start hX hP0 jMc.nil hI0
  clear hX hP0
  have hkm2 : ((-2) : Int32).toInt = (-2) := by decide
  have hk0 : (0 : Int32).toInt = 0 := by decide
  have hk1 : (1 : Int32).toInt = 1 := by decide
  have hk2 : (2 : Int32).toInt = 2 := by decide
  have hk256 : (256 : Int32).toInt = 256 := by decide
  have hk1024 : (1024 : Int32).toInt = 1024 := by decide
  have hk4000 : (4000 : Int32).toInt = 4000 := by decide
  have hk20000 : (20000 : Int32).toInt = 20000 := by decide
  have hly_7_0 := htw (u_lay RX5 TX5 0) (jWc_wsX50 _ (u_in_lay (by decide)))
  have hly_13_0 := htw (u_lay RX11 TX11 0) (jWc_wsX110 _ (u_in_lay (by decide)))
  have hly_13_1 := htw (u_lay RX11 TX11 1) (jWc_wsX110 _ (u_in_lay (by decide)))
  have hly_13_2 := htw (u_lay RX11 TX11 2) (jWc_wsX110 _ (u_in_lay (by decide)))
  have hly_13_3 := htw (u_lay RX11 TX11 3) (jWc_wsX110 _ (u_in_lay (by decide)))
  have hly_13_4 := htw (u_lay RX11 TX11 4) (jWc_wsX110 _ (u_in_lay (by decide)))
  have hly_13_5 := htw (u_lay RX11 TX11 5) (jWc_wsX110 _ (u_in_lay (by decide)))
  have hly_13_6 := htw (u_lay RX11 TX11 6) (jWc_wsX110 _ (u_in_lay (by decide)))
  have hly_13_7 := htw (u_lay RX11 TX11 7) (jWc_wsX110 _ (u_in_lay (by decide)))
  have hly_13_8 := htw (u_lay RX11 TX11 8) (jWc_wsX110 _ (u_in_lay (by decide)))
  have hly_13_9 := htw (u_lay RX11 TX11 9) (jWc_wsX110 _ (u_in_lay (by decide)))
  have hly_13_10 := htw (u_lay RX11 TX11 10) (jWc_wsX110 _ (u_in_lay (by decide)))
  have hly_13_11 := htw (u_lay RX11 TX11 11) (jWc_wsX110 _ (u_in_lay (by decide)))
  have hly_13_15 := htw (u_lay RX11 TX11 15) (jWc_wsX110 _ (u_in_lay (by decide)))
  have hly_13_17 := htw (u_lay RX11 TX11 17) (jWc_wsX110 _ (u_in_lay (by decide)))
  have hly_13_18 := htw (u_lay RX11 TX11 18) (jWc_wsX110 _ (u_in_lay (by decide)))
  have hlk_14 := (htw (.fieldLink RX11 14 "ProofServer" "tape" "LProofServer$Bytes;") (jWr_1 _ (List.mem_of_getElem? (i := 15) rfl)))
  have hlk_21 := (htw (.fieldLink RX11 21 "ProofServer" "frames" "LProofServer$Frames;") (jWr_1 _ (List.mem_of_getElem? (i := 19) rfl)))
  have hlk_28 := (htw (.fieldLink RX11 28 "ProofServer" "json" "LProofServer$Json;") (jWr_1 _ (List.mem_of_getElem? (i := 23) rfl)))
  have hlk_32 := (htw (.fieldLink RX11 32 "ProofServer" "output" "LProofServer$Bytes;") (jWr_2 _ (List.mem_of_getElem? (i := 0) rfl)))
  have hlk_35 := (htw (.fieldLink RX11 35 "ProofServer" "body" "LProofServer$Bytes;") (jWr_2 _ (List.mem_of_getElem? (i := 1) rfl)))
  have hlk_41 := (htw (.fieldLink RX11 41 "ProofServer" "kernel" "LProofServer$Kernel;") (jWr_2 _ (List.mem_of_getElem? (i := 5) rfl)))
  have hlk_47 := (htw (.fieldLink RX11 47 "ProofServer$Kernel" "names" "LProofServer$Names;") (jWr_2 _ (List.mem_of_getElem? (i := 9) rfl)))
  have hlk_54 := (htw (.fieldLink RX11 54 "ProofServer" "printer" "LProofServer$Printer;") (jWr_2 _ (List.mem_of_getElem? (i := 10) rfl)))
  have hlk_61 := (htw (.fieldLink RX11 61 "ProofServer" "open" "Ljava/util/List;") (jWr_2 _ (List.mem_of_getElem? (i := 14) rfl)))
  have hlk_65 := (htw (.fieldLink RX11 65 "ProofServer" "waiting" "Ljava/util/List;") (jWr_2 _ (List.mem_of_getElem? (i := 15) rfl)))
  have hlk_68 := (htw (.fieldLink RX11 68 "ProofServer" "cache" "Ljava/util/List;") (jWr_2 _ (List.mem_of_getElem? (i := 16) rfl)))
  have hlk_73 := (htw (.fieldLink RX11 73 "ProofServer" "hands" "[LProofServer$Document;") (jWr_2 _ (List.mem_of_getElem? (i := 18) rfl)))
  have hlk_77 := (htw (.fieldLink RX11 77 "ProofServer" "phase" "I") (jWr_2 _ (List.mem_of_getElem? (i := 19) rfl)))
  have hlk_82 := (htw (.fieldLink RX11 82 "ProofServer" "spare" "LProofServer$Document;") (jWr_2 _ (List.mem_of_getElem? (i := 22) rfl)))
  have hlk_86 := (htw (.fieldLink RX11 86 "ProofServer" "shown" "LProofServer$Bytes;") (jWr_2 _ (List.mem_of_getElem? (i := 23) rfl)))
  have hlk_89 := (htw (.fieldLink RX11 89 "ProofServer" "shownOf" "I") (jWr_3 _ (List.mem_of_getElem? (i := 0) rfl)))
  have hbs : base ≤ s.heap.size := Nat.le_of_lt (Nat.lt_of_le_of_lt hbr0 hraw0.lt)
  have hRc : R.cells = LC - s.heap.size := by rw [← hR]; rfl
  have hRs : R.slots = LS - jTot s.heap := by rw [← hR]; rfl
  have hU0 := hh.iv 4 rfl
  have hE0 := hh.iv 3 rfl
  have hab0 : ∀ {a : Nat} {t : Nat × Nat}, G0 a = some t → a < s.heap.size := fun ht => (hh.ab ht).2
  have hin2 : meth.name = "<init>" := (name_of_methodNamed Bd.named Bd.method).1
  have hkp : jKx r0 G0 G0 s.heap s.heap := jKx.rf
  refine lv_aload_n hx hb dX11_init_0 rfl (lv_at hl 0 rfl) ?_
  refine W.objInit hx hb hown (htw (.methodLink RX11 1 objectInit) (jWr_1 _ (List.mem_of_getElem? (i := 9) rfl))) (htw (.instanceMethod objectInit) (jWr_1 _ (List.mem_of_getElem? (i := 10) rfl))) (htw (.code objectInit ⟨#[0xb1]⟩ 1 none) (jWr_1 _ (List.mem_of_getElem? (i := 11) rfl))) rfl (by rw [hml]; exact hl.1) rfl dX11_init_1 (by rw [← hR]; exact Nat.le_of_ble_eq_true rfl) (by rw [← hR]; exact Nat.le_of_ble_eq_true rfl) ?_
  refine W.eq (g2 := F0 m 4 ls []) rfl ?_
  refine lv_aload_n hx hb dX11_init_4 rfl (lv_at hl 0 rfl) ?_
  have hsz_1 := hh.2.2.2.2.2.1
  have htt_1 := hh.2.2.2.2.2.2.1
  refine j7_newo (k := 2) (C := RX0) (T := TX0) (N := 2) (fs := [.null, .int 0]) hx hb htw jWc_wsX00 (fun k => ([(.array .byte), .int] : List FieldType).getD k .int) (by decide +kernel) hown (htw (.classLink RX11 7 RX0) (jWr_1 _ (List.mem_of_getElem? (i := 12) rfl))) (htw (.instantiable RX0 2) (jWr_1 _ (List.mem_of_getElem? (i := 13) rfl))) (htw (.initialized RX0) (jWr_1 _ (List.mem_of_getElem? (i := 14) rfl))) hK rfl (fun j hj => by rcases (by omega : j = 0 ∨ j = 1) with rfl | rfl <;> rfl) hh hB (by rw [hRc]; omega) (by rw [hRs]; omega) dX11_init_5 (fun H_1 hraw_1 hfr_1 hnr_1 hh_1 => ?_)
  have hlt_2 := hraw0.lt
  have hke_1 : jKe G0 G0 s.heap H_1 := jKe.raw hfr_1
  have hbr_1 : base ≤ s.heap.size := Nat.le_trans hbs hh.1.1
  have hsy_1 : s.heap.size ≤ s.heap.size := hh.1.1
  clear hh
  have hkp_3 := hkp.tr hke_1
  have hraw_4n := hke_1.nr hraw0.lt hnr0
  have hraw_4 := hraw0.kept (hke_1.1 _ hraw0.lt)
  have hne_5 : r0 ≠ s.heap.size := Nat.ne_of_lt hlt_2
  refine lv_dup hx hb dX11_init_8 rfl ?_
  refine lv_sipush (v := 4000) hx hb dX11_init_9 (by decide) ?_
  clear hsz_1 htt_1
  have hsz_6 := hh_1.2.2.2.2.2.1
  have htt_6 := hh_1.2.2.2.2.2.2.1
  refine W.room (fun hrc_6 hrs_6 => ?_)
  refine va_callv (A0 := jA base) (H0 := s.heap) (va_runI (As := [.int 4000]) (rest := [.ref s.heap.size, .ref r0]) ⟨hx, hb, hml, hown, hts⟩ (uX0_initT l dC dI ca base B hB hAp hB2 hB196 hB197 G0 H_1 s.heap.size 4000 LC LS) (cwI 1 hts (jgW (jWr_3 _ (List.mem_of_getElem? (i := 3) rfl))) rfl rfl rfl (htw (.initialized RX0) (jWr_1 _ (List.mem_of_getElem? (i := 14) rfl))) (htw (.methodLink RX11 11 yX0_init) (jWr_3 _ (List.mem_of_getElem? (i := 1) rfl))) (htw (.instanceMethod yX0_init) (jWr_3 _ (List.mem_of_getElem? (i := 2) rfl))) rfl (by decide +kernel) ⟨by rw [← hR]; exact Nat.le_of_ble_eq_true rfl, by rw [← hR]; exact Nat.le_of_ble_eq_true rfl⟩) ⟨fun a U g mk q => by obtain ⟨q0, q1, q2, qK, q10, q11, q12, q13, q14, q15⟩ := q; exact ⟨q0, q1, q2, jG.calling g mk a qK, q10, q11, q12, q13, q14, q15⟩, fun U hU hW => ⟨rfl, hU, hh_1.2.1, hG.step hW hU hh_1.1, hraw_1, hnr_1, hbr_1, jP.nil, (hh_1.2.2.2.2.2.2.2.2.sub (L1 := [(jFy, jYb dC dI G0)]) [0] rfl), (by omega), (by omega), by first | omega | rfl | assumption | exact fun h9 => absurd h9 (by decide)⟩⟩ rfl rfl hl.1 rfl (lv_room (Nat.le_of_ble_eq_true rfl)) dX11_init_12 ⟨by rw [hRc]; omega, by rw [hRs]; omega⟩) hh_1.1 (fun q _ h => h) (fun q h => h) (fun u_6 t_6 H_6 locs_6 ht_6 hvm_6 hr_7 hb_6 hz_6 hk_6 hS_6 => ?_)
  obtain ⟨qc_6, qa_6, m_qa_6, G_6⟩ := u_6
  rw [ht_6] at hb_6
  simp only at hb_6
  obtain ⟨⟨hb_61, hb_62, hb_63, hb_64, hb_65, hb_66⟩, hgq_6_0, hN_6, hgc_6, hbX_6, hbE_6⟩ := hb_6
  have hE9_6 := hN_6
  try have hn3_6 : jNk [3] G0 G_6 := (jNk.rf).tr (hE9_6.sub (ks1 := [3]) (by decide))
  have hL_6 := hN_6
  have hM_6 := hN_6
  have hN_6 : (jNk [0, 5, 10, 14, 15, 16]) G0 G_6 := hN_6.sub (by decide)
  have hh_6 : jSt (dC, dI) B base G0 G_6 EX11_initU s.heap ((0 + 1) + (1)) ((0 + 2) + (4000)) [(s.heap.size, 2, 1, .int qc_6), (s.heap.size, 2, 0, .ref qa_6)] [] [(jFs11, jSef dC dI G0), (jFl, jLs dC dI ca G0 0 none wl), (jFdo, jDcc dC dI ca G0 none ph), (jFcd, jCD dC dI ca G0 none tq)] H_6 locs_6 := (hh_1.callG hb_61 hb_62 hb_63 hb_64 hb_65 hS_6 rfl (L1 := []) [] rfl rfl (M1 := []) [] rfl rfl (I1 := [(jFs11, jSef dC dI G0), (jFl, jLs dC dI ca G0 0 none wl), (jFdo, jDcc dC dI ca G0 none ph), (jFcd, jCD dC dI ca G0 none tq)]) [1, 2, 3, 4] rfl rfl).more hb_66
  have hNn_6 : (jNk [0, 5, 10, 14, 15, 16]) G0 G_6 := (jNk.rf).tr hN_6
  have hd_8 := jSef.grow (hh_6.iv 0 rfl) hb_62 hM_6 (by decide)
  have hh_9 := hh_6.sub (L1 := [(s.heap.size, 2, 1, .int qc_6), (s.heap.size, 2, 0, .ref qa_6)]) [0, 1] rfl (M1 := []) [] rfl (I1 := [(jFl, jLs dC dI ca G0 0 none wl), (jFdo, jDcc dC dI ca G0 none ph), (jFcd, jCD dC dI ca G0 none tq)]) [1, 2, 3] rfl
  clear hh_6
  have hh_10 := hh_9.addI (jSef.ie hd_8)
  clear hh_9
  have hd_11 := jLs.grow (hh_10.iv 1 rfl) hb_62 hL_6 (by decide)
  have hh_12 := hh_10.sub (L1 := [(s.heap.size, 2, 1, .int qc_6), (s.heap.size, 2, 0, .ref qa_6)]) [0, 1] rfl (M1 := []) [] rfl (I1 := [(jFs11, jSef dC dI G_6), (jFdo, jDcc dC dI ca G0 none ph), (jFcd, jCD dC dI ca G0 none tq)]) [0, 2, 3] rfl
  clear hh_10
  have hh_13 := hh_12.addI (jLs.ie hd_11)
  clear hh_12
  have hd_14 := jDcc.grow (hh_13.iv 2 rfl) hb_62 hE9_6 (by decide)
  have hh_15 := hh_13.sub (L1 := [(s.heap.size, 2, 1, .int qc_6), (s.heap.size, 2, 0, .ref qa_6)]) [0, 1] rfl (M1 := []) [] rfl (I1 := [(jFl, jLs dC dI ca G_6 0 none wl), (jFs11, jSef dC dI G_6), (jFcd, jCD dC dI ca G0 none tq)]) [0, 1, 3] rfl
  clear hh_13
  have hh_16 := hh_15.addI (jDcc.ie hd_14)
  clear hh_15
  have hd_17 := jCD.grow (hh_16.iv 3 rfl) hb_62 hE9_6 (by decide)
  have hh_18 := hh_16.sub (L1 := [(s.heap.size, 2, 1, .int qc_6), (s.heap.size, 2, 0, .ref qa_6)]) [0, 1] rfl (M1 := []) [] rfl (I1 := [(jFdo, jDcc dC dI ca G_6 none ph), (jFl, jLs dC dI ca G_6 0 none wl), (jFs11, jSef dC dI G_6)]) [0, 1, 2] rfl
  clear hh_16
  have hh_19 := hh_18.addI (jCD.ie hd_17)
  clear hh_18
  have hh_20 := hh_19.addIs hbE_6
  try simp only at hr_7
  obtain ⟨hr_7_0, hr_7_1⟩ := hr_7
  have hkp_21 := hkp_3.in hbX_6 hsy_1
  have hraw_22x := hbX_6.ke hraw_4.lt hne_5 hraw_4n
  clear hne_5
  have hraw_22 := hraw_4.kept hraw_22x.1
  refine j7_putRF hx hb hown hK hh_20 hB hAp hraw_22 hraw_22x.2 hbr0 (C := RX11) (T := TX11) (N := 19) rfl (i := 0) (by decide) (Nat.le_of_ble_eq_true rfl) hly_13_0 rfl hin2 rfl hlk_14 (ty := (.object "ProofServer$Bytes")) (v := .ref s.heap.size) (by decide +kernel) rfl rfl dX11_init_15 (fun H_23 locs_23 hraw_23 hr_23 hh_23 => ?_)
  have hraw_23 : va_at (dC, dI) vwCl (r0, .inr (13, [.ref s.heap.size, .null, .null, .null, .null, .null, .null, .null, .null, .null, .null, .int 0, .int 0, .int 0, .int 0, .null, .null, .null, .int 0])) H_23 := hraw_23
  have hkp_24 := hkp_21.put hr_23
  clear hh_20
  refine lv_aload_n hx hb dX11_init_18 rfl (lv_at hl 0 rfl) ?_
  clear hsz_6 htt_6 hrc_6 hrs_6
  (try clear hb_64); (try clear hb_65); (try clear hz_6)
  have hsz_25 := hh_23.2.2.2.2.2.1
  have htt_25 := hh_23.2.2.2.2.2.2.1
  refine j7_newo (k := 4) (C := RX2) (T := TX2) (N := 12) (fs := [.null, .int 0, .int 0, .int 0, .int 0, .int 0, .int 0, .int 0, .int 0, .int 0, .int 0, .int 0]) hx hb htw jWc_wsX20 (fun k => ([(.array .byte), .int, .int, .int, .boolean, .int, .int, .int, .int, .boolean, .int, .int] : List FieldType).getD k .int) (by decide +kernel) hown (htw (.classLink RX11 18 RX2) (jWr_1 _ (List.mem_of_getElem? (i := 16) rfl))) (htw (.instantiable RX2 12) (jWr_1 _ (List.mem_of_getElem? (i := 17) rfl))) (htw (.initialized RX2) (jWr_1 _ (List.mem_of_getElem? (i := 18) rfl))) hK rfl (fun j hj => by rcases (by omega : j = 0 ∨ j = 1 ∨ j = 2 ∨ j = 3 ∨ j = 4 ∨ j = 5 ∨ j = 6 ∨ j = 7 ∨ j = 8 ∨ j = 9 ∨ j = 10 ∨ j = 11) with rfl | rfl | rfl | rfl | rfl | rfl | rfl | rfl | rfl | rfl | rfl | rfl <;> rfl) hh_23 hB (by rw [hRc]; omega) (by rw [hRs]; omega) dX11_init_19 (fun H_25 hraw_25 hfr_25 hnr_25 hh_25 => ?_)
  have hlt_26 := hraw_23.lt
  have hke_25 : jKe G_6 G_6 H_23 H_25 := jKe.raw hfr_25
  have hbr_25 : base ≤ H_23.size := Nat.le_trans hbs hh_23.1.1
  have hsy_25 : s.heap.size ≤ H_23.size := hh_23.1.1
  clear hh_23
  have hkp_27 := hkp_24.tr hke_25
  have hraw_28n := hke_25.nr hraw_23.lt hraw_22x.2
  have hraw_28 := hraw_23.kept (hke_25.1 _ hraw_23.lt)
  have hne_29 : r0 ≠ H_23.size := Nat.ne_of_lt hlt_26
  refine lv_dup hx hb dX11_init_22 rfl ?_
  clear hsz_25 htt_25
  have hsz_30 := hh_25.2.2.2.2.2.1
  have htt_30 := hh_25.2.2.2.2.2.2.1
  refine W.room (fun hrc_30 hrs_30 => ?_)
  refine va_callv (A0 := jA base) (H0 := s.heap) (va_runIN (As := []) (rest := [.ref H_23.size, .ref r0]) ⟨hx, hb, hml, hown, hts⟩ (uX2_initU l dC dI ca base B hB hAp hB4 hB100 G_6 H_25 H_23.size LC LS) ⟨va_cnB 0 hts (jgW (jWr_3 _ (List.mem_of_getElem? (i := 12) rfl))) rfl rfl rfl (hG.2.2.1 RX11 20 yX2_init "ProofServer" (List.mem_of_getElem? (i := 62) (by decide +kernel))) (htw (.initialized RX2) (jWr_1 _ (List.mem_of_getElem? (i := 18) rfl))) (by decide +kernel) ⟨by rw [← hR]; exact Nat.le_of_ble_eq_true rfl, by rw [← hR]; exact Nat.le_of_ble_eq_true rfl⟩, rfl, htw (.instanceMethod yX2_init) (jWr_3 _ (List.mem_of_getElem? (i := 11) rfl))⟩ ⟨fun a U g mk q => by obtain ⟨q0, q1, q2, qK, q10, q11, q12, q13, q14⟩ := q; exact ⟨q0, q1, q2, jG.calling g mk a qK, q10, q11, q12, q13, q14⟩, fun U hU hW => ⟨rfl, hU, hh_25.2.1, hG.step hW hU hh_25.1, hraw_25, hnr_25, hbr_25, jP.nil, (by omega), (by omega), trivial⟩⟩ rfl rfl hl.1 rfl (lv_room (Nat.le_of_ble_eq_true rfl)) dX11_init_23 ⟨by rw [hRc]; omega, by rw [hRs]; omega⟩) hh_25.1 (fun q _ h => h) (fun q h => h) (fun u_30 t_30 H_30 locs_30 ht_30 hvm_30 hr_31 hb_30 hz_30 hk_30 hS_30 => ?_)
  obtain ⟨qb_30, qp_30, qo_30, qk_30, qg_30, ql_30, qd_30, qv_30, qf_30, bd_30, m_bd_30, gb_30, G_30⟩ := u_30
  rw [ht_30] at hb_30
  simp only at hb_30
  obtain ⟨⟨hb_301, hb_302, hb_303, hb_304, hb_305, hb_306⟩, hgq_30_0, hN_30, hgc_30, hbX_30, hbM_30⟩ := hb_30
  have hE9_30 := hN_30
  try have hn3_30 : jNk [3] G0 G_30 := (hn3_6).tr (hE9_30.sub (ks1 := [3]) (by decide))
  have hL_30 := hN_30
  have hY_30 := hN_30
  have hM_30 := hN_30
  have hN_30 : (jNk [0, 5, 10, 14, 15, 16]) G_6 G_30 := hN_30.sub (by decide)
  have hh_30 : jSt (dC, dI) B base G0 G_30 EX11_initU s.heap ((((0 + 1) + (1)) + 1) + (1)) ((((0 + 2) + (4000)) + 12) + (3000)) [(H_23.size, 4, 4, .int qb_30), (H_23.size, 4, 5, .int qp_30), (H_23.size, 4, 6, .int qo_30), (H_23.size, 4, 2, .int qk_30), (H_23.size, 4, 8, .int qg_30), (H_23.size, 4, 9, .int ql_30), (H_23.size, 4, 10, .int qd_30), (H_23.size, 4, 11, .int qv_30), (H_23.size, 4, 7, .int qf_30), (H_23.size, 4, 0, .ref bd_30), (s.heap.size, 2, 1, .int qc_6), (s.heap.size, 2, 0, .ref qa_6)] [] [(jFy, jYb dC dI G_6), (jFcd, jCD dC dI ca G_6 none tq), (jFdo, jDcc dC dI ca G_6 none ph), (jFl, jLs dC dI ca G_6 0 none wl), (jFs11, jSef dC dI G_6)] H_30 locs_30 := (hh_25.callG hb_301 hb_302 hb_303 hb_304 hb_305 hS_30 rfl (L1 := [(s.heap.size, 2, 1, .int qc_6), (s.heap.size, 2, 0, .ref qa_6)]) [0, 1] rfl rfl (M1 := []) [] rfl rfl (I1 := [(jFy, jYb dC dI G_6), (jFcd, jCD dC dI ca G_6 none tq), (jFdo, jDcc dC dI ca G_6 none ph), (jFl, jLs dC dI ca G_6 0 none wl), (jFs11, jSef dC dI G_6)]) [0, 1, 2, 3, 4] rfl rfl).more hb_306
  have hNn_30 : (jNk [0, 5, 10, 14, 15, 16]) G0 G_30 := (hNn_6).tr hN_30
  have hg_32 := hb_302 _ _ hgq_6_0
  have hd_33 := jYb.grow (hh_30.iv 0 rfl) hb_302 hY_30 (by decide)
  have hh_34 := hh_30.sub (L1 := [(H_23.size, 4, 4, .int qb_30), (H_23.size, 4, 5, .int qp_30), (H_23.size, 4, 6, .int qo_30), (H_23.size, 4, 2, .int qk_30), (H_23.size, 4, 8, .int qg_30), (H_23.size, 4, 9, .int ql_30), (H_23.size, 4, 10, .int qd_30), (H_23.size, 4, 11, .int qv_30), (H_23.size, 4, 7, .int qf_30), (H_23.size, 4, 0, .ref bd_30), (s.heap.size, 2, 1, .int qc_6), (s.heap.size, 2, 0, .ref qa_6)]) [0, 1, 2, 3, 4, 5, 6, 7, 8, 9, 10, 11] rfl (M1 := []) [] rfl (I1 := [(jFcd, jCD dC dI ca G_6 none tq), (jFdo, jDcc dC dI ca G_6 none ph), (jFl, jLs dC dI ca G_6 0 none wl), (jFs11, jSef dC dI G_6)]) [1, 2, 3, 4] rfl
  clear hh_30
  have hh_35 := hh_34.addI (jYb.ie hd_33)
  clear hh_34
  have hd_36 := jCD.grow (hh_35.iv 1 rfl) hb_302 hE9_30 (by decide)
  have hh_37 := hh_35.sub (L1 := [(H_23.size, 4, 4, .int qb_30), (H_23.size, 4, 5, .int qp_30), (H_23.size, 4, 6, .int qo_30), (H_23.size, 4, 2, .int qk_30), (H_23.size, 4, 8, .int qg_30), (H_23.size, 4, 9, .int ql_30), (H_23.size, 4, 10, .int qd_30), (H_23.size, 4, 11, .int qv_30), (H_23.size, 4, 7, .int qf_30), (H_23.size, 4, 0, .ref bd_30), (s.heap.size, 2, 1, .int qc_6), (s.heap.size, 2, 0, .ref qa_6)]) [0, 1, 2, 3, 4, 5, 6, 7, 8, 9, 10, 11] rfl (M1 := []) [] rfl (I1 := [(jFy, jYb dC dI G_30), (jFdo, jDcc dC dI ca G_6 none ph), (jFl, jLs dC dI ca G_6 0 none wl), (jFs11, jSef dC dI G_6)]) [0, 2, 3, 4] rfl
  clear hh_35
  have hh_38 := hh_37.addI (jCD.ie hd_36)
  clear hh_37
  have hd_39 := jDcc.grow (hh_38.iv 2 rfl) hb_302 hE9_30 (by decide)
  have hh_40 := hh_38.sub (L1 := [(H_23.size, 4, 4, .int qb_30), (H_23.size, 4, 5, .int qp_30), (H_23.size, 4, 6, .int qo_30), (H_23.size, 4, 2, .int qk_30), (H_23.size, 4, 8, .int qg_30), (H_23.size, 4, 9, .int ql_30), (H_23.size, 4, 10, .int qd_30), (H_23.size, 4, 11, .int qv_30), (H_23.size, 4, 7, .int qf_30), (H_23.size, 4, 0, .ref bd_30), (s.heap.size, 2, 1, .int qc_6), (s.heap.size, 2, 0, .ref qa_6)]) [0, 1, 2, 3, 4, 5, 6, 7, 8, 9, 10, 11] rfl (M1 := []) [] rfl (I1 := [(jFcd, jCD dC dI ca G_30 none tq), (jFy, jYb dC dI G_30), (jFl, jLs dC dI ca G_6 0 none wl), (jFs11, jSef dC dI G_6)]) [0, 1, 3, 4] rfl
  clear hh_38
  have hh_41 := hh_40.addI (jDcc.ie hd_39)
  clear hh_40
  have hd_42 := jLs.grow (hh_41.iv 3 rfl) hb_302 hL_30 (by decide)
  have hh_43 := hh_41.sub (L1 := [(H_23.size, 4, 4, .int qb_30), (H_23.size, 4, 5, .int qp_30), (H_23.size, 4, 6, .int qo_30), (H_23.size, 4, 2, .int qk_30), (H_23.size, 4, 8, .int qg_30), (H_23.size, 4, 9, .int ql_30), (H_23.size, 4, 10, .int qd_30), (H_23.size, 4, 11, .int qv_30), (H_23.size, 4, 7, .int qf_30), (H_23.size, 4, 0, .ref bd_30), (s.heap.size, 2, 1, .int qc_6), (s.heap.size, 2, 0, .ref qa_6)]) [0, 1, 2, 3, 4, 5, 6, 7, 8, 9, 10, 11] rfl (M1 := []) [] rfl (I1 := [(jFdo, jDcc dC dI ca G_30 none ph), (jFcd, jCD dC dI ca G_30 none tq), (jFy, jYb dC dI G_30), (jFs11, jSef dC dI G_6)]) [0, 1, 2, 4] rfl
  clear hh_41
  have hh_44 := hh_43.addI (jLs.ie hd_42)
  clear hh_43
  have hd_45 := jSef.grow (hh_44.iv 4 rfl) hb_302 hM_30 (by decide)
  have hh_46 := hh_44.sub (L1 := [(H_23.size, 4, 4, .int qb_30), (H_23.size, 4, 5, .int qp_30), (H_23.size, 4, 6, .int qo_30), (H_23.size, 4, 2, .int qk_30), (H_23.size, 4, 8, .int qg_30), (H_23.size, 4, 9, .int ql_30), (H_23.size, 4, 10, .int qd_30), (H_23.size, 4, 11, .int qv_30), (H_23.size, 4, 7, .int qf_30), (H_23.size, 4, 0, .ref bd_30), (s.heap.size, 2, 1, .int qc_6), (s.heap.size, 2, 0, .ref qa_6)]) [0, 1, 2, 3, 4, 5, 6, 7, 8, 9, 10, 11] rfl (M1 := []) [] rfl (I1 := [(jFl, jLs dC dI ca G_30 0 none wl), (jFdo, jDcc dC dI ca G_30 none ph), (jFcd, jCD dC dI ca G_30 none tq), (jFy, jYb dC dI G_30)]) [0, 1, 2, 3] rfl
  clear hh_44
  have hh_47 := hh_46.addI (jSef.ie hd_45)
  clear hh_46
  have hh_48 := hh_47.moreM hbM_30
  try simp only at hr_31
  obtain ⟨hr_31_0, hr_31_1, hr_31_2, hr_31_3, hr_31_4, hr_31_5, hr_31_6, hr_31_7, hr_31_8, hr_31_9, hr_31_10⟩ := hr_31
  have hkp_49 := hkp_27.in hbX_30 hsy_25
  have hraw_50x := hbX_30.ke hraw_28.lt hne_29 hraw_28n
  clear hne_29
  have hraw_50 := hraw_28.kept hraw_50x.1
  refine j7_putRF hx hb hown hK hh_48 hB hAp hraw_50 hraw_50x.2 hbr0 (C := RX11) (T := TX11) (N := 19) rfl (i := 1) (by decide) (Nat.le_of_ble_eq_true rfl) hly_13_1 rfl hin2 rfl hlk_21 (ty := (.object "ProofServer$Frames")) (v := .ref H_23.size) (by decide +kernel) rfl rfl dX11_init_26 (fun H_51 locs_51 hraw_51 hr_51 hh_51 => ?_)
  have hraw_51 : va_at (dC, dI) vwCl (r0, .inr (13, [.ref s.heap.size, .ref H_23.size, .null, .null, .null, .null, .null, .null, .null, .null, .null, .int 0, .int 0, .int 0, .int 0, .null, .null, .null, .int 0])) H_51 := hraw_51
  have hkp_52 := hkp_49.put hr_51
  clear hh_48
  refine lv_aload_n hx hb dX11_init_29 rfl (lv_at hl 0 rfl) ?_
  clear hsz_30 htt_30 hrc_30 hrs_30
  (try clear hb_304); (try clear hb_305); (try clear hz_30)
  have hsz_53 := hh_51.2.2.2.2.2.1
  have htt_53 := hh_51.2.2.2.2.2.2.1
  refine j7_newo (k := 6) (C := RX4) (T := TX4) (N := 12) (fs := [.null, .null, .null, .null, .null, .null, .null, .int 0, .int 0, .null, .int 0, .int 0]) hx hb htw jWc_wsX40 (fun k => ([(.array .int), (.array .int), (.array .int), (.array .int), (.array .int), (.array .int), (.array .int), .int, .int, (.array .byte), .int, .int] : List FieldType).getD k .int) (by decide +kernel) hown (htw (.classLink RX11 25 RX4) (jWr_1 _ (List.mem_of_getElem? (i := 20) rfl))) (htw (.instantiable RX4 12) (jWr_1 _ (List.mem_of_getElem? (i := 21) rfl))) (htw (.initialized RX4) (jWr_1 _ (List.mem_of_getElem? (i := 22) rfl))) hK rfl (fun j hj => by rcases (by omega : j = 0 ∨ j = 1 ∨ j = 2 ∨ j = 3 ∨ j = 4 ∨ j = 5 ∨ j = 6 ∨ j = 7 ∨ j = 8 ∨ j = 9 ∨ j = 10 ∨ j = 11) with rfl | rfl | rfl | rfl | rfl | rfl | rfl | rfl | rfl | rfl | rfl | rfl <;> rfl) hh_51 hB (by rw [hRc]; omega) (by rw [hRs]; omega) dX11_init_30 (fun H_53 hraw_53 hfr_53 hnr_53 hh_53 => ?_)
  have hlt_54 := hraw_51.lt
  have hke_53 : jKe G_30 G_30 H_51 H_53 := jKe.raw hfr_53
  have hbr_53 : base ≤ H_51.size := Nat.le_trans hbs hh_51.1.1
  have hsy_53 : s.heap.size ≤ H_51.size := hh_51.1.1
  clear hh_51
  have hkp_55 := hkp_52.tr hke_53
  have hraw_56n := hke_53.nr hraw_51.lt hraw_50x.2
  have hraw_56 := hraw_51.kept (hke_53.1 _ hraw_51.lt)
  have hne_57 : r0 ≠ H_51.size := Nat.ne_of_lt hlt_54
  refine lv_dup hx hb dX11_init_33 rfl ?_
  clear hsz_53 htt_53
  have hsz_58 := hh_53.2.2.2.2.2.1
  have htt_58 := hh_53.2.2.2.2.2.2.1
  refine W.room (fun hrc_58 hrs_58 => ?_)
  refine va_callv (A0 := jA base) (H0 := s.heap) (va_runIN (As := []) (rest := [.ref H_51.size, .ref r0]) ⟨hx, hb, hml, hown, hts⟩ (uX4_init l dC dI ca base B hB hAp hB6 hB100 hB140 hB141 hB142 hB143 hB144 hB145 hB146 G_30 H_53 H_51.size LC LS) ⟨va_cnB 0 hts (jgW (jWr_3 _ (List.mem_of_getElem? (i := 18) rfl))) rfl rfl rfl (hG.2.2.1 RX11 27 yX4_init "ProofServer" (List.mem_of_getElem? (i := 110) (by decide +kernel))) (htw (.initialized RX4) (jWr_1 _ (List.mem_of_getElem? (i := 22) rfl))) (by decide +kernel) ⟨by rw [← hR]; exact Nat.le_of_ble_eq_true rfl, by rw [← hR]; exact Nat.le_of_ble_eq_true rfl⟩, rfl, htw (.instanceMethod yX4_init) (jWr_3 _ (List.mem_of_getElem? (i := 17) rfl))⟩ ⟨fun a U g mk q => by obtain ⟨q0, q1, q2, qK, q10, q11, q12, q13, q14⟩ := q; exact ⟨q0, q1, q2, jG.calling g mk a qK, q10, q11, q12, q13, q14⟩, fun U hU hW => ⟨rfl, hU, hh_53.2.1, hG.step hW hU hh_53.1, hraw_53, hnr_53, hbr_53, jP.nil, (by omega), (by omega), trivial⟩⟩ rfl rfl hl.1 rfl (lv_room (Nat.le_of_ble_eq_true rfl)) dX11_init_34 ⟨by rw [hRc]; omega, by rw [hRs]; omega⟩) hh_53.1 (fun q _ h => h) (fun q h => h) (fun u_58 t_58 H_58 locs_58 ht_58 hvm_58 hr_59 hb_58 hz_58 hk_58 hS_58 => ?_)
  rw [ht_58] at hb_58
  obtain ⟨G_58, rfl⟩ : ∃ z, z = u_58 := ⟨_, rfl⟩
  try simp only at hb_58
  obtain ⟨⟨hb_581, hb_582, hb_583, hb_584, hb_585, hb_586⟩, hN_58, hgc_58, hbX_58⟩ := hb_58
  have hE9_58 := hN_58
  try have hn3_58 : jNk [3] G0 G_58 := (hn3_30).tr (hE9_58.sub (ks1 := [3]) (by decide))
  have hL_58 := hN_58
  have hY_58 := hN_58
  have hM_58 := hN_58
  have hN_58 : (jNk [0, 5, 10, 14, 15, 16]) G_30 G_58 := hN_58.sub (by decide)
  have hh_58 : jSt (dC, dI) B base G0 G_58 EX11_initU s.heap ((((((0 + 1) + (1)) + 1) + (1)) + 1) + (8)) ((((((0 + 2) + (4000)) + 12) + (3000)) + 12) + (12012)) [(H_23.size, 4, 4, .int qb_30), (H_23.size, 4, 5, .int qp_30), (H_23.size, 4, 6, .int qo_30), (H_23.size, 4, 2, .int qk_30), (H_23.size, 4, 8, .int qg_30), (H_23.size, 4, 9, .int ql_30), (H_23.size, 4, 10, .int qd_30), (H_23.size, 4, 11, .int qv_30), (H_23.size, 4, 7, .int qf_30), (H_23.size, 4, 0, .ref bd_30), (s.heap.size, 2, 1, .int qc_6), (s.heap.size, 2, 0, .ref qa_6)] [(bd_30, 100, m_bd_30, ca 0, gb_30)] [(jFs11, jSef dC dI G_30), (jFl, jLs dC dI ca G_30 0 none wl), (jFdo, jDcc dC dI ca G_30 none ph), (jFcd, jCD dC dI ca G_30 none tq), (jFy, jYb dC dI G_30)] H_58 locs_58 := (hh_53.callG hb_581 hb_582 hb_583 hb_584 hb_585 hS_58 rfl (L1 := [(H_23.size, 4, 4, .int qb_30), (H_23.size, 4, 5, .int qp_30), (H_23.size, 4, 6, .int qo_30), (H_23.size, 4, 2, .int qk_30), (H_23.size, 4, 8, .int qg_30), (H_23.size, 4, 9, .int ql_30), (H_23.size, 4, 10, .int qd_30), (H_23.size, 4, 11, .int qv_30), (H_23.size, 4, 7, .int qf_30), (H_23.size, 4, 0, .ref bd_30), (s.heap.size, 2, 1, .int qc_6), (s.heap.size, 2, 0, .ref qa_6)]) [0, 1, 2, 3, 4, 5, 6, 7, 8, 9, 10, 11] rfl rfl (M1 := [(bd_30, 100, m_bd_30, ca 0, gb_30)]) [0] rfl rfl (I1 := [(jFs11, jSef dC dI G_30), (jFl, jLs dC dI ca G_30 0 none wl), (jFdo, jDcc dC dI ca G_30 none ph), (jFcd, jCD dC dI ca G_30 none tq), (jFy, jYb dC dI G_30)]) [0, 1, 2, 3, 4] rfl rfl).more hb_586
  have hNn_58 : (jNk [0, 5, 10, 14, 15, 16]) G0 G_58 := (hNn_30).tr hN_58
  have hg_60 := hb_582 _ _ hgq_30_0
  have hg_61 := hb_582 _ _ hg_32
  have hd_62 := jSef.grow (hh_58.iv 0 rfl) hb_582 hM_58 (by decide)
  have hh_63 := hh_58.sub (L1 := [(H_23.size, 4, 4, .int qb_30), (H_23.size, 4, 5, .int qp_30), (H_23.size, 4, 6, .int qo_30), (H_23.size, 4, 2, .int qk_30), (H_23.size, 4, 8, .int qg_30), (H_23.size, 4, 9, .int ql_30), (H_23.size, 4, 10, .int qd_30), (H_23.size, 4, 11, .int qv_30), (H_23.size, 4, 7, .int qf_30), (H_23.size, 4, 0, .ref bd_30), (s.heap.size, 2, 1, .int qc_6), (s.heap.size, 2, 0, .ref qa_6)]) [0, 1, 2, 3, 4, 5, 6, 7, 8, 9, 10, 11] rfl (M1 := [(bd_30, 100, m_bd_30, ca 0, gb_30)]) [0] rfl (I1 := [(jFl, jLs dC dI ca G_30 0 none wl), (jFdo, jDcc dC dI ca G_30 none ph), (jFcd, jCD dC dI ca G_30 none tq), (jFy, jYb dC dI G_30)]) [1, 2, 3, 4] rfl
  clear hh_58
  have hh_64 := hh_63.addI (jSef.ie hd_62)
  clear hh_63
  have hd_65 := jLs.grow (hh_64.iv 1 rfl) hb_582 hL_58 (by decide)
  have hh_66 := hh_64.sub (L1 := [(H_23.size, 4, 4, .int qb_30), (H_23.size, 4, 5, .int qp_30), (H_23.size, 4, 6, .int qo_30), (H_23.size, 4, 2, .int qk_30), (H_23.size, 4, 8, .int qg_30), (H_23.size, 4, 9, .int ql_30), (H_23.size, 4, 10, .int qd_30), (H_23.size, 4, 11, .int qv_30), (H_23.size, 4, 7, .int qf_30), (H_23.size, 4, 0, .ref bd_30), (s.heap.size, 2, 1, .int qc_6), (s.heap.size, 2, 0, .ref qa_6)]) [0, 1, 2, 3, 4, 5, 6, 7, 8, 9, 10, 11] rfl (M1 := [(bd_30, 100, m_bd_30, ca 0, gb_30)]) [0] rfl (I1 := [(jFs11, jSef dC dI G_58), (jFdo, jDcc dC dI ca G_30 none ph), (jFcd, jCD dC dI ca G_30 none tq), (jFy, jYb dC dI G_30)]) [0, 2, 3, 4] rfl
  clear hh_64
  have hh_67 := hh_66.addI (jLs.ie hd_65)
  clear hh_66
  have hd_68 := jDcc.grow (hh_67.iv 2 rfl) hb_582 hE9_58 (by decide)
  have hh_69 := hh_67.sub (L1 := [(H_23.size, 4, 4, .int qb_30), (H_23.size, 4, 5, .int qp_30), (H_23.size, 4, 6, .int qo_30), (H_23.size, 4, 2, .int qk_30), (H_23.size, 4, 8, .int qg_30), (H_23.size, 4, 9, .int ql_30), (H_23.size, 4, 10, .int qd_30), (H_23.size, 4, 11, .int qv_30), (H_23.size, 4, 7, .int qf_30), (H_23.size, 4, 0, .ref bd_30), (s.heap.size, 2, 1, .int qc_6), (s.heap.size, 2, 0, .ref qa_6)]) [0, 1, 2, 3, 4, 5, 6, 7, 8, 9, 10, 11] rfl (M1 := [(bd_30, 100, m_bd_30, ca 0, gb_30)]) [0] rfl (I1 := [(jFl, jLs dC dI ca G_58 0 none wl), (jFs11, jSef dC dI G_58), (jFcd, jCD dC dI ca G_30 none tq), (jFy, jYb dC dI G_30)]) [0, 1, 3, 4] rfl
  clear hh_67
  have hh_70 := hh_69.addI (jDcc.ie hd_68)
  clear hh_69
  have hd_71 := jCD.grow (hh_70.iv 3 rfl) hb_582 hE9_58 (by decide)
  have hh_72 := hh_70.sub (L1 := [(H_23.size, 4, 4, .int qb_30), (H_23.size, 4, 5, .int qp_30), (H_23.size, 4, 6, .int qo_30), (H_23.size, 4, 2, .int qk_30), (H_23.size, 4, 8, .int qg_30), (H_23.size, 4, 9, .int ql_30), (H_23.size, 4, 10, .int qd_30), (H_23.size, 4, 11, .int qv_30), (H_23.size, 4, 7, .int qf_30), (H_23.size, 4, 0, .ref bd_30), (s.heap.size, 2, 1, .int qc_6), (s.heap.size, 2, 0, .ref qa_6)]) [0, 1, 2, 3, 4, 5, 6, 7, 8, 9, 10, 11] rfl (M1 := [(bd_30, 100, m_bd_30, ca 0, gb_30)]) [0] rfl (I1 := [(jFdo, jDcc dC dI ca G_58 none ph), (jFl, jLs dC dI ca G_58 0 none wl), (jFs11, jSef dC dI G_58), (jFy, jYb dC dI G_30)]) [0, 1, 2, 4] rfl
  clear hh_70
  have hh_73 := hh_72.addI (jCD.ie hd_71)
  clear hh_72
  have hd_74 := jYb.grow (hh_73.iv 4 rfl) hb_582 hY_58 (by decide)
  have hh_75 := hh_73.sub (L1 := [(H_23.size, 4, 4, .int qb_30), (H_23.size, 4, 5, .int qp_30), (H_23.size, 4, 6, .int qo_30), (H_23.size, 4, 2, .int qk_30), (H_23.size, 4, 8, .int qg_30), (H_23.size, 4, 9, .int ql_30), (H_23.size, 4, 10, .int qd_30), (H_23.size, 4, 11, .int qv_30), (H_23.size, 4, 7, .int qf_30), (H_23.size, 4, 0, .ref bd_30), (s.heap.size, 2, 1, .int qc_6), (s.heap.size, 2, 0, .ref qa_6)]) [0, 1, 2, 3, 4, 5, 6, 7, 8, 9, 10, 11] rfl (M1 := [(bd_30, 100, m_bd_30, ca 0, gb_30)]) [0] rfl (I1 := [(jFcd, jCD dC dI ca G_58 none tq), (jFdo, jDcc dC dI ca G_58 none ph), (jFl, jLs dC dI ca G_58 0 none wl), (jFs11, jSef dC dI G_58)]) [0, 1, 2, 3] rfl
  clear hh_73
  have hh_76 := hh_75.addI (jYb.ie hd_74)
  clear hh_75
  try simp only at hr_59
  have hkp_77 := hkp_55.in hbX_58 hsy_53
  have hraw_78x := hbX_58.ke hraw_56.lt hne_57 hraw_56n
  clear hne_57
  have hraw_78 := hraw_56.kept hraw_78x.1
  refine j7_putRF hx hb hown hK hh_76 hB hAp hraw_78 hraw_78x.2 hbr0 (C := RX11) (T := TX11) (N := 19) rfl (i := 2) (by decide) (Nat.le_of_ble_eq_true rfl) hly_13_2 rfl hin2 rfl hlk_28 (ty := (.object "ProofServer$Json")) (v := .ref H_51.size) (by decide +kernel) rfl rfl dX11_init_37 (fun H_79 locs_79 hraw_79 hr_79 hh_79 => ?_)
  have hraw_79 : va_at (dC, dI) vwCl (r0, .inr (13, [.ref s.heap.size, .ref H_23.size, .ref H_51.size, .null, .null, .null, .null, .null, .null, .null, .null, .int 0, .int 0, .int 0, .int 0, .null, .null, .null, .int 0])) H_79 := hraw_79
  have hkp_80 := hkp_77.put hr_79
  clear hh_76
  refine lv_aload_n hx hb dX11_init_40 rfl (lv_at hl 0 rfl) ?_
  clear hsz_58 htt_58 hrc_58 hrs_58
  (try clear hb_584); (try clear hb_585); (try clear hz_58)
  have hsz_81 := hh_79.2.2.2.2.2.1
  have htt_81 := hh_79.2.2.2.2.2.2.1
  refine j7_newo (k := 2) (C := RX0) (T := TX0) (N := 2) (fs := [.null, .int 0]) hx hb htw jWc_wsX00 (fun k => ([(.array .byte), .int] : List FieldType).getD k .int) (by decide +kernel) hown (htw (.classLink RX11 7 RX0) (jWr_1 _ (List.mem_of_getElem? (i := 12) rfl))) (htw (.instantiable RX0 2) (jWr_1 _ (List.mem_of_getElem? (i := 13) rfl))) (htw (.initialized RX0) (jWr_1 _ (List.mem_of_getElem? (i := 14) rfl))) hK rfl (fun j hj => by rcases (by omega : j = 0 ∨ j = 1) with rfl | rfl <;> rfl) hh_79 hB (by rw [hRc]; omega) (by rw [hRs]; omega) dX11_init_41 (fun H_81 hraw_81 hfr_81 hnr_81 hh_81 => ?_)
  have hlt_82 := hraw_79.lt
  have hke_81 : jKe G_58 G_58 H_79 H_81 := jKe.raw hfr_81
  have hbr_81 : base ≤ H_79.size := Nat.le_trans hbs hh_79.1.1
  have hsy_81 : s.heap.size ≤ H_79.size := hh_79.1.1
  clear hh_79
  have hkp_83 := hkp_80.tr hke_81
  have hraw_84n := hke_81.nr hraw_79.lt hraw_78x.2
  have hraw_84 := hraw_79.kept (hke_81.1 _ hraw_79.lt)
  have hne_85 : r0 ≠ H_79.size := Nat.ne_of_lt hlt_82
  refine lv_dup hx hb dX11_init_44 rfl ?_
  refine lv_sipush (v := 20000) hx hb dX11_init_45 (by decide) ?_
  clear hsz_81 htt_81
  have hsz_86 := hh_81.2.2.2.2.2.1
  have htt_86 := hh_81.2.2.2.2.2.2.1
  refine W.room (fun hrc_86 hrs_86 => ?_)
  refine va_callv (A0 := jA base) (H0 := s.heap) (va_runI (As := [.int 20000]) (rest := [.ref H_79.size, .ref r0]) ⟨hx, hb, hml, hown, hts⟩ (uX0_initY l dC dI ca base B hB hAp hB2 hB196 G_58 H_81 H_79.size 20000 20000 LC LS) (cwI 1 hts (jgW (jWr_3 _ (List.mem_of_getElem? (i := 3) rfl))) rfl rfl rfl (htw (.initialized RX0) (jWr_1 _ (List.mem_of_getElem? (i := 14) rfl))) (htw (.methodLink RX11 11 yX0_init) (jWr_3 _ (List.mem_of_getElem? (i := 1) rfl))) (htw (.instanceMethod yX0_init) (jWr_3 _ (List.mem_of_getElem? (i := 2) rfl))) rfl (by decide +kernel) ⟨by rw [← hR]; exact Nat.le_of_ble_eq_true rfl, by rw [← hR]; exact Nat.le_of_ble_eq_true rfl⟩) ⟨fun a U g mk q => by obtain ⟨q0, q1, q2, qK, q10, q11, q12, q13, q14, q15⟩ := q; exact ⟨q0, q1, q2, jG.calling g mk a qK, q10, q11, q12, q13, q14, q15⟩, fun U hU hW => ⟨rfl, hU, hh_81.2.1, hG.step hW hU hh_81.1, hraw_81, hnr_81, hbr_81, jP.nil, (hh_81.2.2.2.2.2.2.2.2.sub (L1 := [(jFy, jYb dC dI G_58)]) [0] rfl), (by omega), (by omega), ⟨(by first | omega | rfl | assumption | exact fun h9 => absurd h9 (by decide)), (by first | omega | rfl | assumption | exact fun h9 => absurd h9 (by decide)), (by first | omega | rfl | assumption | exact fun h9 => absurd h9 (by decide)), (by first | assumption | exact fun h9 => absurd h9 (by decide) | omega), (by first | omega | rfl | assumption | exact fun h9 => absurd h9 (by decide))⟩⟩⟩ rfl rfl hl.1 rfl (lv_room (Nat.le_of_ble_eq_true rfl)) dX11_init_48 ⟨by rw [hRc]; omega, by rw [hRs]; omega⟩) hh_81.1 (fun q _ h => h) (fun q h => h) (fun u_86 t_86 H_86 locs_86 ht_86 hvm_86 hr_87 hb_86 hz_86 hk_86 hS_86 => ?_)
  obtain ⟨qc_86, qa_86, m_qa_86, G_86⟩ := u_86
  rw [ht_86] at hb_86
  simp only at hb_86
  obtain ⟨⟨hb_861, hb_862, hb_863, hb_864, hb_865, hb_866⟩, hgq_86_0, hN_86, hgc_86, hbX_86, hbE_86⟩ := hb_86
  have hE9_86 := hN_86
  try have hn3_86 : jNk [3] G0 G_86 := (hn3_58).tr (hE9_86.sub (ks1 := [3]) (by decide))
  have hL_86 := hN_86
  have hM_86 := hN_86
  have hN_86 : (jNk [0, 5, 10, 14, 15, 16]) G_58 G_86 := hN_86.sub (by decide)
  have hh_86 : jSt (dC, dI) B base G0 G_86 EX11_initU s.heap ((((((((0 + 1) + (1)) + 1) + (1)) + 1) + (8)) + 1) + (1)) ((((((((0 + 2) + (4000)) + 12) + (3000)) + 12) + (12012)) + 2) + (20000)) [(H_79.size, 2, 1, .int qc_86), (H_79.size, 2, 0, .ref qa_86), (H_23.size, 4, 4, .int qb_30), (H_23.size, 4, 5, .int qp_30), (H_23.size, 4, 6, .int qo_30), (H_23.size, 4, 2, .int qk_30), (H_23.size, 4, 8, .int qg_30), (H_23.size, 4, 9, .int ql_30), (H_23.size, 4, 10, .int qd_30), (H_23.size, 4, 11, .int qv_30), (H_23.size, 4, 7, .int qf_30), (H_23.size, 4, 0, .ref bd_30), (s.heap.size, 2, 1, .int qc_6), (s.heap.size, 2, 0, .ref qa_6)] [(bd_30, 100, m_bd_30, ca 0, gb_30)] [(jFcd, jCD dC dI ca G_58 none tq), (jFdo, jDcc dC dI ca G_58 none ph), (jFl, jLs dC dI ca G_58 0 none wl), (jFs11, jSef dC dI G_58)] H_86 locs_86 := (hh_81.callG hb_861 hb_862 hb_863 hb_864 hb_865 hS_86 rfl (L1 := [(H_23.size, 4, 4, .int qb_30), (H_23.size, 4, 5, .int qp_30), (H_23.size, 4, 6, .int qo_30), (H_23.size, 4, 2, .int qk_30), (H_23.size, 4, 8, .int qg_30), (H_23.size, 4, 9, .int ql_30), (H_23.size, 4, 10, .int qd_30), (H_23.size, 4, 11, .int qv_30), (H_23.size, 4, 7, .int qf_30), (H_23.size, 4, 0, .ref bd_30), (s.heap.size, 2, 1, .int qc_6), (s.heap.size, 2, 0, .ref qa_6)]) [0, 1, 2, 3, 4, 5, 6, 7, 8, 9, 10, 11] rfl rfl (M1 := [(bd_30, 100, m_bd_30, ca 0, gb_30)]) [0] rfl rfl (I1 := [(jFcd, jCD dC dI ca G_58 none tq), (jFdo, jDcc dC dI ca G_58 none ph), (jFl, jLs dC dI ca G_58 0 none wl), (jFs11, jSef dC dI G_58)]) [1, 2, 3, 4] rfl rfl).more hb_866
  have hNn_86 : (jNk [0, 5, 10, 14, 15, 16]) G0 G_86 := (hNn_58).tr hN_86
  have hg_88 := hb_862 _ _ hg_60
  have hg_89 := hb_862 _ _ hg_61
  have hd_90 := jCD.grow (hh_86.iv 0 rfl) hb_862 hE9_86 (by decide)
  have hh_91 := hh_86.sub (L1 := [(H_79.size, 2, 1, .int qc_86), (H_79.size, 2, 0, .ref qa_86), (H_23.size, 4, 4, .int qb_30), (H_23.size, 4, 5, .int qp_30), (H_23.size, 4, 6, .int qo_30), (H_23.size, 4, 2, .int qk_30), (H_23.size, 4, 8, .int qg_30), (H_23.size, 4, 9, .int ql_30), (H_23.size, 4, 10, .int qd_30), (H_23.size, 4, 11, .int qv_30), (H_23.size, 4, 7, .int qf_30), (H_23.size, 4, 0, .ref bd_30), (s.heap.size, 2, 1, .int qc_6), (s.heap.size, 2, 0, .ref qa_6)]) [0, 1, 2, 3, 4, 5, 6, 7, 8, 9, 10, 11, 12, 13] rfl (M1 := [(bd_30, 100, m_bd_30, ca 0, gb_30)]) [0] rfl (I1 := [(jFdo, jDcc dC dI ca G_58 none ph), (jFl, jLs dC dI ca G_58 0 none wl), (jFs11, jSef dC dI G_58)]) [1, 2, 3] rfl
  clear hh_86
  have hh_92 := hh_91.addI (jCD.ie hd_90)
  clear hh_91
  have hd_93 := jDcc.grow (hh_92.iv 1 rfl) hb_862 hE9_86 (by decide)
  have hh_94 := hh_92.sub (L1 := [(H_79.size, 2, 1, .int qc_86), (H_79.size, 2, 0, .ref qa_86), (H_23.size, 4, 4, .int qb_30), (H_23.size, 4, 5, .int qp_30), (H_23.size, 4, 6, .int qo_30), (H_23.size, 4, 2, .int qk_30), (H_23.size, 4, 8, .int qg_30), (H_23.size, 4, 9, .int ql_30), (H_23.size, 4, 10, .int qd_30), (H_23.size, 4, 11, .int qv_30), (H_23.size, 4, 7, .int qf_30), (H_23.size, 4, 0, .ref bd_30), (s.heap.size, 2, 1, .int qc_6), (s.heap.size, 2, 0, .ref qa_6)]) [0, 1, 2, 3, 4, 5, 6, 7, 8, 9, 10, 11, 12, 13] rfl (M1 := [(bd_30, 100, m_bd_30, ca 0, gb_30)]) [0] rfl (I1 := [(jFcd, jCD dC dI ca G_86 none tq), (jFl, jLs dC dI ca G_58 0 none wl), (jFs11, jSef dC dI G_58)]) [0, 2, 3] rfl
  clear hh_92
  have hh_95 := hh_94.addI (jDcc.ie hd_93)
  clear hh_94
  have hd_96 := jLs.grow (hh_95.iv 2 rfl) hb_862 hL_86 (by decide)
  have hh_97 := hh_95.sub (L1 := [(H_79.size, 2, 1, .int qc_86), (H_79.size, 2, 0, .ref qa_86), (H_23.size, 4, 4, .int qb_30), (H_23.size, 4, 5, .int qp_30), (H_23.size, 4, 6, .int qo_30), (H_23.size, 4, 2, .int qk_30), (H_23.size, 4, 8, .int qg_30), (H_23.size, 4, 9, .int ql_30), (H_23.size, 4, 10, .int qd_30), (H_23.size, 4, 11, .int qv_30), (H_23.size, 4, 7, .int qf_30), (H_23.size, 4, 0, .ref bd_30), (s.heap.size, 2, 1, .int qc_6), (s.heap.size, 2, 0, .ref qa_6)]) [0, 1, 2, 3, 4, 5, 6, 7, 8, 9, 10, 11, 12, 13] rfl (M1 := [(bd_30, 100, m_bd_30, ca 0, gb_30)]) [0] rfl (I1 := [(jFdo, jDcc dC dI ca G_86 none ph), (jFcd, jCD dC dI ca G_86 none tq), (jFs11, jSef dC dI G_58)]) [0, 1, 3] rfl
  clear hh_95
  have hh_98 := hh_97.addI (jLs.ie hd_96)
  clear hh_97
  have hd_99 := jSef.grow (hh_98.iv 3 rfl) hb_862 hM_86 (by decide)
  have hh_100 := hh_98.sub (L1 := [(H_79.size, 2, 1, .int qc_86), (H_79.size, 2, 0, .ref qa_86), (H_23.size, 4, 4, .int qb_30), (H_23.size, 4, 5, .int qp_30), (H_23.size, 4, 6, .int qo_30), (H_23.size, 4, 2, .int qk_30), (H_23.size, 4, 8, .int qg_30), (H_23.size, 4, 9, .int ql_30), (H_23.size, 4, 10, .int qd_30), (H_23.size, 4, 11, .int qv_30), (H_23.size, 4, 7, .int qf_30), (H_23.size, 4, 0, .ref bd_30), (s.heap.size, 2, 1, .int qc_6), (s.heap.size, 2, 0, .ref qa_6)]) [0, 1, 2, 3, 4, 5, 6, 7, 8, 9, 10, 11, 12, 13] rfl (M1 := [(bd_30, 100, m_bd_30, ca 0, gb_30)]) [0] rfl (I1 := [(jFl, jLs dC dI ca G_86 0 none wl), (jFdo, jDcc dC dI ca G_86 none ph), (jFcd, jCD dC dI ca G_86 none tq)]) [0, 1, 2] rfl
  clear hh_98
  have hh_101 := hh_100.addI (jSef.ie hd_99)
  clear hh_100
  have hh_102 := hh_101.addIs hbE_86
  try simp only at hr_87
  obtain ⟨hr_87_0, hr_87_1⟩ := hr_87
  have hkp_103 := hkp_83.in hbX_86 hsy_81
  have hraw_104x := hbX_86.ke hraw_84.lt hne_85 hraw_84n
  clear hne_85
  have hraw_104 := hraw_84.kept hraw_104x.1
  refine j7_putRF hx hb hown hK hh_102 hB hAp hraw_104 hraw_104x.2 hbr0 (C := RX11) (T := TX11) (N := 19) rfl (i := 3) (by decide) (Nat.le_of_ble_eq_true rfl) hly_13_3 rfl hin2 rfl hlk_32 (ty := (.object "ProofServer$Bytes")) (v := .ref H_79.size) (by decide +kernel) rfl rfl dX11_init_51 (fun H_105 locs_105 hraw_105 hr_105 hh_105 => ?_)
  have hraw_105 : va_at (dC, dI) vwCl (r0, .inr (13, [.ref s.heap.size, .ref H_23.size, .ref H_51.size, .ref H_79.size, .null, .null, .null, .null, .null, .null, .null, .int 0, .int 0, .int 0, .int 0, .null, .null, .null, .int 0])) H_105 := hraw_105
  have hkp_106 := hkp_103.put hr_105
  clear hh_102
  refine lv_aload_n hx hb dX11_init_54 rfl (lv_at hl 0 rfl) ?_
  clear hsz_86 htt_86 hrc_86 hrs_86
  (try clear hb_864); (try clear hb_865); (try clear hz_86)
  have hsz_107 := hh_105.2.2.2.2.2.1
  have htt_107 := hh_105.2.2.2.2.2.2.1
  refine j7_newo (k := 2) (C := RX0) (T := TX0) (N := 2) (fs := [.null, .int 0]) hx hb htw jWc_wsX00 (fun k => ([(.array .byte), .int] : List FieldType).getD k .int) (by decide +kernel) hown (htw (.classLink RX11 7 RX0) (jWr_1 _ (List.mem_of_getElem? (i := 12) rfl))) (htw (.instantiable RX0 2) (jWr_1 _ (List.mem_of_getElem? (i := 13) rfl))) (htw (.initialized RX0) (jWr_1 _ (List.mem_of_getElem? (i := 14) rfl))) hK rfl (fun j hj => by rcases (by omega : j = 0 ∨ j = 1) with rfl | rfl <;> rfl) hh_105 hB (by rw [hRc]; omega) (by rw [hRs]; omega) dX11_init_55 (fun H_107 hraw_107 hfr_107 hnr_107 hh_107 => ?_)
  have hlt_108 := hraw_105.lt
  have hke_107 : jKe G_86 G_86 H_105 H_107 := jKe.raw hfr_107
  have hbr_107 : base ≤ H_105.size := Nat.le_trans hbs hh_105.1.1
  have hsy_107 : s.heap.size ≤ H_105.size := hh_105.1.1
  clear hh_105
  have hkp_109 := hkp_106.tr hke_107
  have hraw_110n := hke_107.nr hraw_105.lt hraw_104x.2
  have hraw_110 := hraw_105.kept (hke_107.1 _ hraw_105.lt)
  have hne_111 : r0 ≠ H_105.size := Nat.ne_of_lt hlt_108
  refine lv_dup hx hb dX11_init_58 rfl ?_
  refine lv_sipush (v := 1024) hx hb dX11_init_59 (by decide) ?_
  clear hsz_107 htt_107
  have hsz_112 := hh_107.2.2.2.2.2.1
  have htt_112 := hh_107.2.2.2.2.2.2.1
  refine W.room (fun hrc_112 hrs_112 => ?_)
  refine va_callv (A0 := jA base) (H0 := s.heap) (va_runI (As := [.int 1024]) (rest := [.ref H_105.size, .ref r0]) ⟨hx, hb, hml, hown, hts⟩ (uX0_initY l dC dI ca base B hB hAp hB2 hB196 G_86 H_107 H_105.size 1024 0 LC LS) (cwI 1 hts (jgW (jWr_3 _ (List.mem_of_getElem? (i := 3) rfl))) rfl rfl rfl (htw (.initialized RX0) (jWr_1 _ (List.mem_of_getElem? (i := 14) rfl))) (htw (.methodLink RX11 11 yX0_init) (jWr_3 _ (List.mem_of_getElem? (i := 1) rfl))) (htw (.instanceMethod yX0_init) (jWr_3 _ (List.mem_of_getElem? (i := 2) rfl))) rfl (by decide +kernel) ⟨by rw [← hR]; exact Nat.le_of_ble_eq_true rfl, by rw [← hR]; exact Nat.le_of_ble_eq_true rfl⟩) ⟨fun a U g mk q => by obtain ⟨q0, q1, q2, qK, q10, q11, q12, q13, q14, q15⟩ := q; exact ⟨q0, q1, q2, jG.calling g mk a qK, q10, q11, q12, q13, q14, q15⟩, fun U hU hW => ⟨rfl, hU, hh_107.2.1, hG.step hW hU hh_107.1, hraw_107, hnr_107, hbr_107, jP.nil, (hh_107.2.2.2.2.2.2.2.2.sub (L1 := [(jFy, jYb dC dI G_86)]) [0] rfl), (by omega), (by omega), ⟨(by first | omega | rfl | assumption | exact fun _ => ⟨6, by decide, by decide⟩), (by first | omega | rfl | assumption | exact fun _ => ⟨6, by decide, by decide⟩), (by first | omega | rfl | assumption | exact fun _ => ⟨6, by decide, by decide⟩), (by first | assumption | exact fun _ => ⟨6, by decide, by decide⟩ | omega), (by first | omega | rfl | assumption | exact fun _ => ⟨6, by decide, by decide⟩)⟩⟩⟩ rfl rfl hl.1 rfl (lv_room (Nat.le_of_ble_eq_true rfl)) dX11_init_62 ⟨by rw [hRc]; omega, by rw [hRs]; omega⟩) hh_107.1 (fun q _ h => h) (fun q h => h) (fun u_112 t_112 H_112 locs_112 ht_112 hvm_112 hr_113 hb_112 hz_112 hk_112 hS_112 => ?_)
  obtain ⟨qc_112, qa_112, m_qa_112, G_112⟩ := u_112
  rw [ht_112] at hb_112
  simp only at hb_112
  obtain ⟨⟨hb_1121, hb_1122, hb_1123, hb_1124, hb_1125, hb_1126⟩, hgq_112_0, hN_112, hgc_112, hbX_112, hbE_112⟩ := hb_112
  have hE9_112 := hN_112
  try have hn3_112 : jNk [3] G0 G_112 := (hn3_86).tr (hE9_112.sub (ks1 := [3]) (by decide))
  have hL_112 := hN_112
  have hM_112 := hN_112
  have hN_112 : (jNk [0, 5, 10, 14, 15, 16]) G_86 G_112 := hN_112.sub (by decide)
  have hh_112 : jSt (dC, dI) B base G0 G_112 EX11_initU s.heap ((((((((((0 + 1) + (1)) + 1) + (1)) + 1) + (8)) + 1) + (1)) + 1) + (1)) ((((((((((0 + 2) + (4000)) + 12) + (3000)) + 12) + (12012)) + 2) + (20000)) + 2) + (1024)) [(H_105.size, 2, 1, .int qc_112), (H_105.size, 2, 0, .ref qa_112), (H_79.size, 2, 1, .int qc_86), (H_79.size, 2, 0, .ref qa_86), (H_23.size, 4, 4, .int qb_30), (H_23.size, 4, 5, .int qp_30), (H_23.size, 4, 6, .int qo_30), (H_23.size, 4, 2, .int qk_30), (H_23.size, 4, 8, .int qg_30), (H_23.size, 4, 9, .int ql_30), (H_23.size, 4, 10, .int qd_30), (H_23.size, 4, 11, .int qv_30), (H_23.size, 4, 7, .int qf_30), (H_23.size, 4, 0, .ref bd_30), (s.heap.size, 2, 1, .int qc_6), (s.heap.size, 2, 0, .ref qa_6)] [(bd_30, 100, m_bd_30, ca 0, gb_30)] [(jFs11, jSef dC dI G_86), (jFl, jLs dC dI ca G_86 0 none wl), (jFdo, jDcc dC dI ca G_86 none ph), (jFcd, jCD dC dI ca G_86 none tq)] H_112 locs_112 := (hh_107.callG hb_1121 hb_1122 hb_1123 hb_1124 hb_1125 hS_112 rfl (L1 := [(H_79.size, 2, 1, .int qc_86), (H_79.size, 2, 0, .ref qa_86), (H_23.size, 4, 4, .int qb_30), (H_23.size, 4, 5, .int qp_30), (H_23.size, 4, 6, .int qo_30), (H_23.size, 4, 2, .int qk_30), (H_23.size, 4, 8, .int qg_30), (H_23.size, 4, 9, .int ql_30), (H_23.size, 4, 10, .int qd_30), (H_23.size, 4, 11, .int qv_30), (H_23.size, 4, 7, .int qf_30), (H_23.size, 4, 0, .ref bd_30), (s.heap.size, 2, 1, .int qc_6), (s.heap.size, 2, 0, .ref qa_6)]) [0, 1, 2, 3, 4, 5, 6, 7, 8, 9, 10, 11, 12, 13] rfl rfl (M1 := [(bd_30, 100, m_bd_30, ca 0, gb_30)]) [0] rfl rfl (I1 := [(jFs11, jSef dC dI G_86), (jFl, jLs dC dI ca G_86 0 none wl), (jFdo, jDcc dC dI ca G_86 none ph), (jFcd, jCD dC dI ca G_86 none tq)]) [1, 2, 3, 4] rfl rfl).more hb_1126
  have hNn_112 : (jNk [0, 5, 10, 14, 15, 16]) G0 G_112 := (hNn_86).tr hN_112
  have hg_114 := hb_1122 _ _ hgq_86_0
  have hg_115 := hb_1122 _ _ hg_88
  have hg_116 := hb_1122 _ _ hg_89
  have hd_117 := jSef.grow (hh_112.iv 0 rfl) hb_1122 hM_112 (by decide)
  have hh_118 := hh_112.sub (L1 := [(H_105.size, 2, 1, .int qc_112), (H_105.size, 2, 0, .ref qa_112), (H_79.size, 2, 1, .int qc_86), (H_79.size, 2, 0, .ref qa_86), (H_23.size, 4, 4, .int qb_30), (H_23.size, 4, 5, .int qp_30), (H_23.size, 4, 6, .int qo_30), (H_23.size, 4, 2, .int qk_30), (H_23.size, 4, 8, .int qg_30), (H_23.size, 4, 9, .int ql_30), (H_23.size, 4, 10, .int qd_30), (H_23.size, 4, 11, .int qv_30), (H_23.size, 4, 7, .int qf_30), (H_23.size, 4, 0, .ref bd_30), (s.heap.size, 2, 1, .int qc_6), (s.heap.size, 2, 0, .ref qa_6)]) [0, 1, 2, 3, 4, 5, 6, 7, 8, 9, 10, 11, 12, 13, 14, 15] rfl (M1 := [(bd_30, 100, m_bd_30, ca 0, gb_30)]) [0] rfl (I1 := [(jFl, jLs dC dI ca G_86 0 none wl), (jFdo, jDcc dC dI ca G_86 none ph), (jFcd, jCD dC dI ca G_86 none tq)]) [1, 2, 3] rfl
  clear hh_112
  have hh_119 := hh_118.addI (jSef.ie hd_117)
  clear hh_118
  have hd_120 := jLs.grow (hh_119.iv 1 rfl) hb_1122 hL_112 (by decide)
  have hh_121 := hh_119.sub (L1 := [(H_105.size, 2, 1, .int qc_112), (H_105.size, 2, 0, .ref qa_112), (H_79.size, 2, 1, .int qc_86), (H_79.size, 2, 0, .ref qa_86), (H_23.size, 4, 4, .int qb_30), (H_23.size, 4, 5, .int qp_30), (H_23.size, 4, 6, .int qo_30), (H_23.size, 4, 2, .int qk_30), (H_23.size, 4, 8, .int qg_30), (H_23.size, 4, 9, .int ql_30), (H_23.size, 4, 10, .int qd_30), (H_23.size, 4, 11, .int qv_30), (H_23.size, 4, 7, .int qf_30), (H_23.size, 4, 0, .ref bd_30), (s.heap.size, 2, 1, .int qc_6), (s.heap.size, 2, 0, .ref qa_6)]) [0, 1, 2, 3, 4, 5, 6, 7, 8, 9, 10, 11, 12, 13, 14, 15] rfl (M1 := [(bd_30, 100, m_bd_30, ca 0, gb_30)]) [0] rfl (I1 := [(jFs11, jSef dC dI G_112), (jFdo, jDcc dC dI ca G_86 none ph), (jFcd, jCD dC dI ca G_86 none tq)]) [0, 2, 3] rfl
  clear hh_119
  have hh_122 := hh_121.addI (jLs.ie hd_120)
  clear hh_121
  have hd_123 := jDcc.grow (hh_122.iv 2 rfl) hb_1122 hE9_112 (by decide)
  have hh_124 := hh_122.sub (L1 := [(H_105.size, 2, 1, .int qc_112), (H_105.size, 2, 0, .ref qa_112), (H_79.size, 2, 1, .int qc_86), (H_79.size, 2, 0, .ref qa_86), (H_23.size, 4, 4, .int qb_30), (H_23.size, 4, 5, .int qp_30), (H_23.size, 4, 6, .int qo_30), (H_23.size, 4, 2, .int qk_30), (H_23.size, 4, 8, .int qg_30), (H_23.size, 4, 9, .int ql_30), (H_23.size, 4, 10, .int qd_30), (H_23.size, 4, 11, .int qv_30), (H_23.size, 4, 7, .int qf_30), (H_23.size, 4, 0, .ref bd_30), (s.heap.size, 2, 1, .int qc_6), (s.heap.size, 2, 0, .ref qa_6)]) [0, 1, 2, 3, 4, 5, 6, 7, 8, 9, 10, 11, 12, 13, 14, 15] rfl (M1 := [(bd_30, 100, m_bd_30, ca 0, gb_30)]) [0] rfl (I1 := [(jFl, jLs dC dI ca G_112 0 none wl), (jFs11, jSef dC dI G_112), (jFcd, jCD dC dI ca G_86 none tq)]) [0, 1, 3] rfl
  clear hh_122
  have hh_125 := hh_124.addI (jDcc.ie hd_123)
  clear hh_124
  have hd_126 := jCD.grow (hh_125.iv 3 rfl) hb_1122 hE9_112 (by decide)
  have hh_127 := hh_125.sub (L1 := [(H_105.size, 2, 1, .int qc_112), (H_105.size, 2, 0, .ref qa_112), (H_79.size, 2, 1, .int qc_86), (H_79.size, 2, 0, .ref qa_86), (H_23.size, 4, 4, .int qb_30), (H_23.size, 4, 5, .int qp_30), (H_23.size, 4, 6, .int qo_30), (H_23.size, 4, 2, .int qk_30), (H_23.size, 4, 8, .int qg_30), (H_23.size, 4, 9, .int ql_30), (H_23.size, 4, 10, .int qd_30), (H_23.size, 4, 11, .int qv_30), (H_23.size, 4, 7, .int qf_30), (H_23.size, 4, 0, .ref bd_30), (s.heap.size, 2, 1, .int qc_6), (s.heap.size, 2, 0, .ref qa_6)]) [0, 1, 2, 3, 4, 5, 6, 7, 8, 9, 10, 11, 12, 13, 14, 15] rfl (M1 := [(bd_30, 100, m_bd_30, ca 0, gb_30)]) [0] rfl (I1 := [(jFdo, jDcc dC dI ca G_112 none ph), (jFl, jLs dC dI ca G_112 0 none wl), (jFs11, jSef dC dI G_112)]) [0, 1, 2] rfl
  clear hh_125
  have hh_128 := hh_127.addI (jCD.ie hd_126)
  clear hh_127
  have hh_129 := hh_128.addIs hbE_112
  try simp only at hr_113
  obtain ⟨hr_113_0, hr_113_1⟩ := hr_113
  have hkp_130 := hkp_109.in hbX_112 hsy_107
  have hraw_131x := hbX_112.ke hraw_110.lt hne_111 hraw_110n
  clear hne_111
  have hraw_131 := hraw_110.kept hraw_131x.1
  refine j7_putRF hx hb hown hK hh_129 hB hAp hraw_131 hraw_131x.2 hbr0 (C := RX11) (T := TX11) (N := 19) rfl (i := 4) (by decide) (Nat.le_of_ble_eq_true rfl) hly_13_4 rfl hin2 rfl hlk_35 (ty := (.object "ProofServer$Bytes")) (v := .ref H_105.size) (by decide +kernel) rfl rfl dX11_init_65 (fun H_132 locs_132 hraw_132 hr_132 hh_132 => ?_)
  have hraw_132 : va_at (dC, dI) vwCl (r0, .inr (13, [.ref s.heap.size, .ref H_23.size, .ref H_51.size, .ref H_79.size, .ref H_105.size, .null, .null, .null, .null, .null, .null, .int 0, .int 0, .int 0, .int 0, .null, .null, .null, .int 0])) H_132 := hraw_132
  have hkp_133 := hkp_130.put hr_132
  clear hh_129
  refine lv_aload_n hx hb dX11_init_68 rfl (lv_at hl 0 rfl) ?_
  clear hsz_112 htt_112 hrc_112 hrs_112
  (try clear hb_1124); (try clear hb_1125); (try clear hz_112)
  have hsz_134 := hh_132.2.2.2.2.2.1
  have htt_134 := hh_132.2.2.2.2.2.2.1
  refine j7_newo (k := 7) (C := RX5) (T := TX5) (N := 11) (fs := [.null, .null, .null, .null, .null, .null, .null, .null, .null, .null, .int 0]) hx hb htw jWc_wsX50 (fun k => ([(.object "ProofServer$Names"), (.object "ProofServer$Syntax"), (.object "ProofServer$State"), (.array .int), (.array .int), (.array .int), (.array .int), (.array .int), (.array .int), (.array (.object "ProofServer$Goal")), .int] : List FieldType).getD k .int) (by decide +kernel) hown (htw (.classLink RX11 38 RX5) (jWr_2 _ (List.mem_of_getElem? (i := 2) rfl))) (htw (.instantiable RX5 11) (jWr_2 _ (List.mem_of_getElem? (i := 3) rfl))) (htw (.initialized RX5) (jWr_2 _ (List.mem_of_getElem? (i := 4) rfl))) hK rfl (fun j hj => by rcases (by omega : j = 0 ∨ j = 1 ∨ j = 2 ∨ j = 3 ∨ j = 4 ∨ j = 5 ∨ j = 6 ∨ j = 7 ∨ j = 8 ∨ j = 9 ∨ j = 10) with rfl | rfl | rfl | rfl | rfl | rfl | rfl | rfl | rfl | rfl | rfl <;> rfl) hh_132 hB (by rw [hRc]; omega) (by rw [hRs]; omega) dX11_init_69 (fun H_134 hraw_134 hfr_134 hnr_134 hh_134 => ?_)
  have hlt_135 := hraw_132.lt
  have hke_134 : jKe G_112 G_112 H_132 H_134 := jKe.raw hfr_134
  have hbr_134 : base ≤ H_132.size := Nat.le_trans hbs hh_132.1.1
  have hsy_134 : s.heap.size ≤ H_132.size := hh_132.1.1
  clear hh_132
  have hkp_136 := hkp_133.tr hke_134
  have hraw_137n := hke_134.nr hraw_132.lt hraw_131x.2
  have hraw_137 := hraw_132.kept (hke_134.1 _ hraw_132.lt)
  have hne_138 : r0 ≠ H_132.size := Nat.ne_of_lt hlt_135
  refine lv_dup hx hb dX11_init_72 rfl ?_
  clear hsz_134 htt_134
  have hsz_139 := hh_134.2.2.2.2.2.1
  have htt_139 := hh_134.2.2.2.2.2.2.1
  refine W.room (fun hrc_139 hrs_139 => ?_)
  refine va_callv (A0 := jA base) (H0 := s.heap) (va_runIN (As := []) (rest := [.ref H_132.size, .ref r0]) ⟨hx, hb, hml, hown, hts⟩ (uX5_init l dC dI ca base B hB hAp hB5 hB7 hB8 hB11 hB12 hB101 hB102 hB132 hB133 hB211 hB214 hB280 hB290 hB291 hB292 hB293 hB313 G_112 H_134 H_132.size LC LS) ⟨va_cnB 0 hts (jgW (jWr_4 _ (List.mem_of_getElem? (i := 6) rfl))) rfl rfl rfl (hG.2.2.1 RX11 40 yX5_init "ProofServer" (List.mem_of_getElem? (i := 154) (by decide +kernel))) (htw (.initialized RX5) (jWr_2 _ (List.mem_of_getElem? (i := 4) rfl))) (by decide +kernel) ⟨by rw [← hR]; exact Nat.le_of_ble_eq_true rfl, by rw [← hR]; exact Nat.le_of_ble_eq_true rfl⟩, rfl, htw (.instanceMethod yX5_init) (jWr_4 _ (List.mem_of_getElem? (i := 5) rfl))⟩ ⟨fun a U g mk q => by obtain ⟨q0, q1, q2, qK, q10, q11, q12, q13, q14, q15, q16, q17, q18⟩ := q; exact ⟨q0, q1, q2, jG.calling g mk a qK, (va_K.moved (Vm.Alike.refl U.vm) q10), (jK5.moved (Vm.Alike.refl U.vm) q11), (jK6.moved (Vm.Alike.refl U.vm) q12), q13, q14, q15, q16, q17, q18⟩, fun U hU hW => ⟨rfl, hU, hh_134.2.1, hG.step hW hU hh_134.1, va_K.moved hW.alike hK2, jK5.moved hW.alike hK5, jK6.moved hW.alike hK6, hraw_134, hnr_134, hbr_134, jP.nil, (hh_134.2.2.2.2.2.2.2.2.sub (L1 := [(jFs11, jSef dC dI G_112)]) [4] rfl), (by omega), (by omega), trivial⟩⟩ rfl rfl hl.1 rfl (lv_room (Nat.le_of_ble_eq_true rfl)) dX11_init_73 ⟨by rw [hRc]; omega, by rw [hRs]; omega⟩) hh_134.1 (fun q _ h => h) (fun q h => h) (fun u_139 t_139 H_139 locs_139 ht_139 hvm_139 hr_140 hb_139 hz_139 hk_139 hS_139 => ?_)
  rw [ht_139] at hb_139
  obtain ⟨G_139, rfl⟩ : ∃ z, z = u_139 := ⟨_, rfl⟩
  try simp only at hb_139
  obtain ⟨⟨hb_1391, hb_1392, hb_1393, hb_1394, hb_1395, hb_1396⟩, hN_139, hgc_139, hbX_139, hbE_139⟩ := hb_139
  have hE9_139 := hN_139
  try have hn3_139 : jNk [3] G0 G_139 := (hn3_112).tr (hE9_139.sub (ks1 := [3]) (by decide))
  have hL_139 := hN_139
  have hY_139 := hN_139
  have hN_139 : (jNk [0, 5, 10, 14, 15, 16]) G_112 G_139 := hN_139.sub (by decide)
  have hh_139 : jSt (dC, dI) B base G0 G_139 EX11_initU s.heap ((((((((((((0 + 1) + (1)) + 1) + (1)) + 1) + (8)) + 1) + (1)) + 1) + (1)) + 1) + (24)) ((((((((((((0 + 2) + (4000)) + 12) + (3000)) + 12) + (12012)) + 2) + (20000)) + 2) + (1024)) + 11) + (38990)) [(H_105.size, 2, 1, .int qc_112), (H_105.size, 2, 0, .ref qa_112), (H_79.size, 2, 1, .int qc_86), (H_79.size, 2, 0, .ref qa_86), (H_23.size, 4, 4, .int qb_30), (H_23.size, 4, 5, .int qp_30), (H_23.size, 4, 6, .int qo_30), (H_23.size, 4, 2, .int qk_30), (H_23.size, 4, 8, .int qg_30), (H_23.size, 4, 9, .int ql_30), (H_23.size, 4, 10, .int qd_30), (H_23.size, 4, 11, .int qv_30), (H_23.size, 4, 7, .int qf_30), (H_23.size, 4, 0, .ref bd_30), (s.heap.size, 2, 1, .int qc_6), (s.heap.size, 2, 0, .ref qa_6)] [(bd_30, 100, m_bd_30, ca 0, gb_30)] [(jFy, jYb dC dI G_112), (jFcd, jCD dC dI ca G_112 none tq), (jFdo, jDcc dC dI ca G_112 none ph), (jFl, jLs dC dI ca G_112 0 none wl)] H_139 locs_139 := (hh_134.callG hb_1391 hb_1392 hb_1393 hb_1394 hb_1395 hS_139 rfl (L1 := [(H_105.size, 2, 1, .int qc_112), (H_105.size, 2, 0, .ref qa_112), (H_79.size, 2, 1, .int qc_86), (H_79.size, 2, 0, .ref qa_86), (H_23.size, 4, 4, .int qb_30), (H_23.size, 4, 5, .int qp_30), (H_23.size, 4, 6, .int qo_30), (H_23.size, 4, 2, .int qk_30), (H_23.size, 4, 8, .int qg_30), (H_23.size, 4, 9, .int ql_30), (H_23.size, 4, 10, .int qd_30), (H_23.size, 4, 11, .int qv_30), (H_23.size, 4, 7, .int qf_30), (H_23.size, 4, 0, .ref bd_30), (s.heap.size, 2, 1, .int qc_6), (s.heap.size, 2, 0, .ref qa_6)]) [0, 1, 2, 3, 4, 5, 6, 7, 8, 9, 10, 11, 12, 13, 14, 15] rfl rfl (M1 := [(bd_30, 100, m_bd_30, ca 0, gb_30)]) [0] rfl rfl (I1 := [(jFy, jYb dC dI G_112), (jFcd, jCD dC dI ca G_112 none tq), (jFdo, jDcc dC dI ca G_112 none ph), (jFl, jLs dC dI ca G_112 0 none wl)]) [0, 1, 2, 3] rfl rfl).more hb_1396
  have hNn_139 : (jNk [0, 5, 10, 14, 15, 16]) G0 G_139 := (hNn_112).tr hN_139
  have hg_141 := hb_1392 _ _ hgq_112_0
  have hg_142 := hb_1392 _ _ hg_114
  have hg_143 := hb_1392 _ _ hg_115
  have hg_144 := hb_1392 _ _ hg_116
  have hd_145 := jYb.grow (hh_139.iv 0 rfl) hb_1392 hY_139 (by decide)
  have hh_146 := hh_139.sub (L1 := [(H_105.size, 2, 1, .int qc_112), (H_105.size, 2, 0, .ref qa_112), (H_79.size, 2, 1, .int qc_86), (H_79.size, 2, 0, .ref qa_86), (H_23.size, 4, 4, .int qb_30), (H_23.size, 4, 5, .int qp_30), (H_23.size, 4, 6, .int qo_30), (H_23.size, 4, 2, .int qk_30), (H_23.size, 4, 8, .int qg_30), (H_23.size, 4, 9, .int ql_30), (H_23.size, 4, 10, .int qd_30), (H_23.size, 4, 11, .int qv_30), (H_23.size, 4, 7, .int qf_30), (H_23.size, 4, 0, .ref bd_30), (s.heap.size, 2, 1, .int qc_6), (s.heap.size, 2, 0, .ref qa_6)]) [0, 1, 2, 3, 4, 5, 6, 7, 8, 9, 10, 11, 12, 13, 14, 15] rfl (M1 := [(bd_30, 100, m_bd_30, ca 0, gb_30)]) [0] rfl (I1 := [(jFcd, jCD dC dI ca G_112 none tq), (jFdo, jDcc dC dI ca G_112 none ph), (jFl, jLs dC dI ca G_112 0 none wl)]) [1, 2, 3] rfl
  clear hh_139
  have hh_147 := hh_146.addI (jYb.ie hd_145)
  clear hh_146
  have hd_148 := jCD.grow (hh_147.iv 1 rfl) hb_1392 hE9_139 (by decide)
  have hh_149 := hh_147.sub (L1 := [(H_105.size, 2, 1, .int qc_112), (H_105.size, 2, 0, .ref qa_112), (H_79.size, 2, 1, .int qc_86), (H_79.size, 2, 0, .ref qa_86), (H_23.size, 4, 4, .int qb_30), (H_23.size, 4, 5, .int qp_30), (H_23.size, 4, 6, .int qo_30), (H_23.size, 4, 2, .int qk_30), (H_23.size, 4, 8, .int qg_30), (H_23.size, 4, 9, .int ql_30), (H_23.size, 4, 10, .int qd_30), (H_23.size, 4, 11, .int qv_30), (H_23.size, 4, 7, .int qf_30), (H_23.size, 4, 0, .ref bd_30), (s.heap.size, 2, 1, .int qc_6), (s.heap.size, 2, 0, .ref qa_6)]) [0, 1, 2, 3, 4, 5, 6, 7, 8, 9, 10, 11, 12, 13, 14, 15] rfl (M1 := [(bd_30, 100, m_bd_30, ca 0, gb_30)]) [0] rfl (I1 := [(jFy, jYb dC dI G_139), (jFdo, jDcc dC dI ca G_112 none ph), (jFl, jLs dC dI ca G_112 0 none wl)]) [0, 2, 3] rfl
  clear hh_147
  have hh_150 := hh_149.addI (jCD.ie hd_148)
  clear hh_149
  have hd_151 := jDcc.grow (hh_150.iv 2 rfl) hb_1392 hE9_139 (by decide)
  have hh_152 := hh_150.sub (L1 := [(H_105.size, 2, 1, .int qc_112), (H_105.size, 2, 0, .ref qa_112), (H_79.size, 2, 1, .int qc_86), (H_79.size, 2, 0, .ref qa_86), (H_23.size, 4, 4, .int qb_30), (H_23.size, 4, 5, .int qp_30), (H_23.size, 4, 6, .int qo_30), (H_23.size, 4, 2, .int qk_30), (H_23.size, 4, 8, .int qg_30), (H_23.size, 4, 9, .int ql_30), (H_23.size, 4, 10, .int qd_30), (H_23.size, 4, 11, .int qv_30), (H_23.size, 4, 7, .int qf_30), (H_23.size, 4, 0, .ref bd_30), (s.heap.size, 2, 1, .int qc_6), (s.heap.size, 2, 0, .ref qa_6)]) [0, 1, 2, 3, 4, 5, 6, 7, 8, 9, 10, 11, 12, 13, 14, 15] rfl (M1 := [(bd_30, 100, m_bd_30, ca 0, gb_30)]) [0] rfl (I1 := [(jFcd, jCD dC dI ca G_139 none tq), (jFy, jYb dC dI G_139), (jFl, jLs dC dI ca G_112 0 none wl)]) [0, 1, 3] rfl
  clear hh_150
  have hh_153 := hh_152.addI (jDcc.ie hd_151)
  clear hh_152
  have hd_154 := jLs.grow (hh_153.iv 3 rfl) hb_1392 hL_139 (by decide)
  have hh_155 := hh_153.sub (L1 := [(H_105.size, 2, 1, .int qc_112), (H_105.size, 2, 0, .ref qa_112), (H_79.size, 2, 1, .int qc_86), (H_79.size, 2, 0, .ref qa_86), (H_23.size, 4, 4, .int qb_30), (H_23.size, 4, 5, .int qp_30), (H_23.size, 4, 6, .int qo_30), (H_23.size, 4, 2, .int qk_30), (H_23.size, 4, 8, .int qg_30), (H_23.size, 4, 9, .int ql_30), (H_23.size, 4, 10, .int qd_30), (H_23.size, 4, 11, .int qv_30), (H_23.size, 4, 7, .int qf_30), (H_23.size, 4, 0, .ref bd_30), (s.heap.size, 2, 1, .int qc_6), (s.heap.size, 2, 0, .ref qa_6)]) [0, 1, 2, 3, 4, 5, 6, 7, 8, 9, 10, 11, 12, 13, 14, 15] rfl (M1 := [(bd_30, 100, m_bd_30, ca 0, gb_30)]) [0] rfl (I1 := [(jFdo, jDcc dC dI ca G_139 none ph), (jFcd, jCD dC dI ca G_139 none tq), (jFy, jYb dC dI G_139)]) [0, 1, 2] rfl
  clear hh_153
  have hh_156 := hh_155.addI (jLs.ie hd_154)
  clear hh_155
  have hh_157 := hh_156.addIs hbE_139
  try simp only at hr_140
  have hkp_158 := hkp_136.in hbX_139 hsy_134
  have hraw_159x := hbX_139.ke hraw_137.lt hne_138 hraw_137n
  clear hne_138
  have hraw_159 := hraw_137.kept hraw_159x.1
  refine j7_putRF hx hb hown hK hh_157 hB hAp hraw_159 hraw_159x.2 hbr0 (C := RX11) (T := TX11) (N := 19) rfl (i := 5) (by decide) (Nat.le_of_ble_eq_true rfl) hly_13_5 rfl hin2 rfl hlk_41 (ty := (.object "ProofServer$Kernel")) (v := .ref H_132.size) (by decide +kernel) rfl rfl dX11_init_76 (fun H_160 locs_160 hraw_160 hr_160 hh_160 => ?_)
  have hraw_160 : va_at (dC, dI) vwCl (r0, .inr (13, [.ref s.heap.size, .ref H_23.size, .ref H_51.size, .ref H_79.size, .ref H_105.size, .ref H_132.size, .null, .null, .null, .null, .null, .int 0, .int 0, .int 0, .int 0, .null, .null, .null, .int 0])) H_160 := hraw_160
  have hkp_161 := hkp_158.put hr_160
  clear hh_157
  refine lv_aload_n hx hb dX11_init_79 rfl (lv_at hl 0 rfl) ?_
  clear hsz_139 htt_139 hrc_139 hrs_139
  (try clear hb_1394); (try clear hb_1395); (try clear hz_139)
  have hsz_162 := hh_160.2.2.2.2.2.1
  have htt_162 := hh_160.2.2.2.2.2.2.1
  refine j7_newo (k := 9) (C := RX7) (T := TX7) (N := 5) (fs := [.null, .null, .int 0, .null, .null]) hx hb htw jWc_wsX70 (fun k => ([(.object "ProofServer$Names"), (.array .int), .int, (.array .int), (.array .int)] : List FieldType).getD k .int) (by decide +kernel) hown (htw (.classLink RX11 45 RX7) (jWr_2 _ (List.mem_of_getElem? (i := 6) rfl))) (htw (.instantiable RX7 5) (jWr_2 _ (List.mem_of_getElem? (i := 7) rfl))) (htw (.initialized RX7) (jWr_2 _ (List.mem_of_getElem? (i := 8) rfl))) hK rfl (fun j hj => by rcases (by omega : j = 0 ∨ j = 1 ∨ j = 2 ∨ j = 3 ∨ j = 4) with rfl | rfl | rfl | rfl | rfl <;> rfl) hh_160 hB (by rw [hRc]; omega) (by rw [hRs]; omega) dX11_init_80 (fun H_162 hraw_162 hfr_162 hnr_162 hh_162 => ?_)
  have hlt_163 := hraw_160.lt
  have hke_162 : jKe G_139 G_139 H_160 H_162 := jKe.raw hfr_162
  have hbr_162 : base ≤ H_160.size := Nat.le_trans hbs hh_160.1.1
  have hsy_162 : s.heap.size ≤ H_160.size := hh_160.1.1
  clear hh_160
  have hkp_164 := hkp_161.tr hke_162
  have hraw_165n := hke_162.nr hraw_160.lt hraw_159x.2
  have hraw_165 := hraw_160.kept (hke_162.1 _ hraw_160.lt)
  have hne_166 : r0 ≠ H_160.size := Nat.ne_of_lt hlt_163
  refine lv_dup hx hb dX11_init_83 rfl ?_
  refine lv_aload_n hx hb dX11_init_84 rfl (lv_at hl 0 rfl) ?_
  refine j7_read hx hb hown hK (C := RX11) (T := TX11) (N := 19) rfl hly_13_5 hlk_41 (jf.raw (C := RX11) (T := TX11) (N := 19) rfl hraw_165 (i := 5) (by decide)) dX11_init_85 ?_
  have hg_167 := (jLe.rf) _ _ hgc_139
  obtain ⟨v_168, hv_168, hh_169⟩ := hh_162.pin (C := RX5) (T := TX5) (N := 11) hB7 rfl (by decide) hg_167 (i := 0) (by decide) rfl
  clear hh_162
  obtain ⟨names_170, rfl, hg_names_170⟩ := hv_168
  refine j7_read hx hb hown hK (C := RX5) (T := TX5) (N := 11) rfl hly_7_0 hlk_47 (hh_169.at 0 rfl) dX11_init_88 ?_
  clear hsz_162 htt_162
  have hsz_171 := hh_169.2.2.2.2.2.1
  have htt_171 := hh_169.2.2.2.2.2.2.1
  refine W.room (fun hrc_171 hrs_171 => ?_)
  refine va_callv (A0 := jA base) (H0 := s.heap) (va_runI (As := [.ref names_170]) (rest := [.ref H_160.size, .ref r0]) ⟨hx, hb, hml, hown, hts⟩ (uX7_init l dC dI ca base B hB hAp hB8 hB9 hB286 hB287 hB288 G_139 H_162 H_160.size names_170 LC LS) (cwI 1 hts (jgW (jWr_9 _ (List.mem_of_getElem? (i := 5) rfl))) rfl rfl rfl (htw (.initialized RX7) (jWr_2 _ (List.mem_of_getElem? (i := 8) rfl))) (htw (.methodLink RX11 51 yX7_init) (jWr_9 _ (List.mem_of_getElem? (i := 3) rfl))) (htw (.instanceMethod yX7_init) (jWr_9 _ (List.mem_of_getElem? (i := 4) rfl))) rfl (by decide +kernel) ⟨by rw [← hR]; exact Nat.le_of_ble_eq_true rfl, by rw [← hR]; exact Nat.le_of_ble_eq_true rfl⟩) ⟨fun a U g mk q => by obtain ⟨q0, q1, q2, qK, q10, q11, q12, q13, q14, q15⟩ := q; exact ⟨q0, q1, q2, jG.calling g mk a qK, q10, q11, q12, q13, q14, q15⟩, fun U hU hW => ⟨rfl, hU, hh_169.2.1, hG.step hW hU hh_169.1, hg_names_170, hraw_162, hnr_162, hbr_162, jP.nil, (by omega), (by omega), trivial⟩⟩ rfl rfl hl.1 rfl (lv_room (Nat.le_of_ble_eq_true rfl)) dX11_init_91 ⟨by rw [hRc]; omega, by rw [hRs]; omega⟩) hh_169.1 (fun q _ h => h) (fun q h => h) (fun u_171 t_171 H_171 locs_171 ht_171 hvm_171 hr_172 hb_171 hz_171 hk_171 hS_171 => ?_)
  rw [ht_171] at hb_171
  obtain ⟨G_171, rfl⟩ : ∃ z, z = u_171 := ⟨_, rfl⟩
  try simp only at hb_171
  obtain ⟨⟨hb_1711, hb_1712, hb_1713, hb_1714, hb_1715, hb_1716⟩, hN_171, hgc_171, hbX_171⟩ := hb_171
  have hE9_171 := hN_171
  try have hn3_171 : jNk [3] G0 G_171 := (hn3_139).tr (hE9_171.sub (ks1 := [3]) (by decide))
  have hL_171 := hN_171
  have hY_171 := hN_171
  have hM_171 := hN_171
  have hN_171 : (jNk [0, 5, 10, 14, 15, 16]) G_139 G_171 := hN_171.sub (by decide)
  have hh_171 : jSt (dC, dI) B base G0 G_171 EX11_initU s.heap ((((((((((((((0 + 1) + (1)) + 1) + (1)) + 1) + (8)) + 1) + (1)) + 1) + (1)) + 1) + (24)) + 1) + (3)) ((((((((((((((0 + 2) + (4000)) + 12) + (3000)) + 12) + (12012)) + 2) + (20000)) + 2) + (1024)) + 11) + (38990)) + 5) + (826)) [(H_132.size, 7, 0, .ref names_170), (H_105.size, 2, 1, .int qc_112), (H_105.size, 2, 0, .ref qa_112), (H_79.size, 2, 1, .int qc_86), (H_79.size, 2, 0, .ref qa_86), (H_23.size, 4, 4, .int qb_30), (H_23.size, 4, 5, .int qp_30), (H_23.size, 4, 6, .int qo_30), (H_23.size, 4, 2, .int qk_30), (H_23.size, 4, 8, .int qg_30), (H_23.size, 4, 9, .int ql_30), (H_23.size, 4, 10, .int qd_30), (H_23.size, 4, 11, .int qv_30), (H_23.size, 4, 7, .int qf_30), (H_23.size, 4, 0, .ref bd_30), (s.heap.size, 2, 1, .int qc_6), (s.heap.size, 2, 0, .ref qa_6)] [(bd_30, 100, m_bd_30, ca 0, gb_30)] [(jFs11, jSef dC dI G_139), (jFl, jLs dC dI ca G_139 0 none wl), (jFdo, jDcc dC dI ca G_139 none ph), (jFcd, jCD dC dI ca G_139 none tq), (jFy, jYb dC dI G_139)] H_171 locs_171 := (hh_169.callG hb_1711 hb_1712 hb_1713 hb_1714 hb_1715 hS_171 rfl (L1 := [(H_132.size, 7, 0, .ref names_170), (H_105.size, 2, 1, .int qc_112), (H_105.size, 2, 0, .ref qa_112), (H_79.size, 2, 1, .int qc_86), (H_79.size, 2, 0, .ref qa_86), (H_23.size, 4, 4, .int qb_30), (H_23.size, 4, 5, .int qp_30), (H_23.size, 4, 6, .int qo_30), (H_23.size, 4, 2, .int qk_30), (H_23.size, 4, 8, .int qg_30), (H_23.size, 4, 9, .int ql_30), (H_23.size, 4, 10, .int qd_30), (H_23.size, 4, 11, .int qv_30), (H_23.size, 4, 7, .int qf_30), (H_23.size, 4, 0, .ref bd_30), (s.heap.size, 2, 1, .int qc_6), (s.heap.size, 2, 0, .ref qa_6)]) [0, 1, 2, 3, 4, 5, 6, 7, 8, 9, 10, 11, 12, 13, 14, 15, 16] rfl rfl (M1 := [(bd_30, 100, m_bd_30, ca 0, gb_30)]) [0] rfl rfl (I1 := [(jFs11, jSef dC dI G_139), (jFl, jLs dC dI ca G_139 0 none wl), (jFdo, jDcc dC dI ca G_139 none ph), (jFcd, jCD dC dI ca G_139 none tq), (jFy, jYb dC dI G_139)]) [0, 1, 2, 3, 4] rfl rfl).more hb_1716
  have hNn_171 : (jNk [0, 5, 10, 14, 15, 16]) G0 G_171 := (hNn_139).tr hN_171
  have hg_173 := hb_1712 _ _ hg_names_170
  have hg_174 := hb_1712 _ _ hg_141
  have hg_175 := hb_1712 _ _ hg_142
  have hg_176 := hb_1712 _ _ hg_143
  have hg_177 := hb_1712 _ _ hg_144
  have hd_178 := jSef.grow (hh_171.iv 0 rfl) hb_1712 hM_171 (by decide)
  have hh_179 := hh_171.sub (L1 := [(H_132.size, 7, 0, .ref names_170), (H_105.size, 2, 1, .int qc_112), (H_105.size, 2, 0, .ref qa_112), (H_79.size, 2, 1, .int qc_86), (H_79.size, 2, 0, .ref qa_86), (H_23.size, 4, 4, .int qb_30), (H_23.size, 4, 5, .int qp_30), (H_23.size, 4, 6, .int qo_30), (H_23.size, 4, 2, .int qk_30), (H_23.size, 4, 8, .int qg_30), (H_23.size, 4, 9, .int ql_30), (H_23.size, 4, 10, .int qd_30), (H_23.size, 4, 11, .int qv_30), (H_23.size, 4, 7, .int qf_30), (H_23.size, 4, 0, .ref bd_30), (s.heap.size, 2, 1, .int qc_6), (s.heap.size, 2, 0, .ref qa_6)]) [0, 1, 2, 3, 4, 5, 6, 7, 8, 9, 10, 11, 12, 13, 14, 15, 16] rfl (M1 := [(bd_30, 100, m_bd_30, ca 0, gb_30)]) [0] rfl (I1 := [(jFl, jLs dC dI ca G_139 0 none wl), (jFdo, jDcc dC dI ca G_139 none ph), (jFcd, jCD dC dI ca G_139 none tq), (jFy, jYb dC dI G_139)]) [1, 2, 3, 4] rfl
  clear hh_171
  have hh_180 := hh_179.addI (jSef.ie hd_178)
  clear hh_179
  have hd_181 := jLs.grow (hh_180.iv 1 rfl) hb_1712 hL_171 (by decide)
  have hh_182 := hh_180.sub (L1 := [(H_132.size, 7, 0, .ref names_170), (H_105.size, 2, 1, .int qc_112), (H_105.size, 2, 0, .ref qa_112), (H_79.size, 2, 1, .int qc_86), (H_79.size, 2, 0, .ref qa_86), (H_23.size, 4, 4, .int qb_30), (H_23.size, 4, 5, .int qp_30), (H_23.size, 4, 6, .int qo_30), (H_23.size, 4, 2, .int qk_30), (H_23.size, 4, 8, .int qg_30), (H_23.size, 4, 9, .int ql_30), (H_23.size, 4, 10, .int qd_30), (H_23.size, 4, 11, .int qv_30), (H_23.size, 4, 7, .int qf_30), (H_23.size, 4, 0, .ref bd_30), (s.heap.size, 2, 1, .int qc_6), (s.heap.size, 2, 0, .ref qa_6)]) [0, 1, 2, 3, 4, 5, 6, 7, 8, 9, 10, 11, 12, 13, 14, 15, 16] rfl (M1 := [(bd_30, 100, m_bd_30, ca 0, gb_30)]) [0] rfl (I1 := [(jFs11, jSef dC dI G_171), (jFdo, jDcc dC dI ca G_139 none ph), (jFcd, jCD dC dI ca G_139 none tq), (jFy, jYb dC dI G_139)]) [0, 2, 3, 4] rfl
  clear hh_180
  have hh_183 := hh_182.addI (jLs.ie hd_181)
  clear hh_182
  have hd_184 := jDcc.grow (hh_183.iv 2 rfl) hb_1712 hE9_171 (by decide)
  have hh_185 := hh_183.sub (L1 := [(H_132.size, 7, 0, .ref names_170), (H_105.size, 2, 1, .int qc_112), (H_105.size, 2, 0, .ref qa_112), (H_79.size, 2, 1, .int qc_86), (H_79.size, 2, 0, .ref qa_86), (H_23.size, 4, 4, .int qb_30), (H_23.size, 4, 5, .int qp_30), (H_23.size, 4, 6, .int qo_30), (H_23.size, 4, 2, .int qk_30), (H_23.size, 4, 8, .int qg_30), (H_23.size, 4, 9, .int ql_30), (H_23.size, 4, 10, .int qd_30), (H_23.size, 4, 11, .int qv_30), (H_23.size, 4, 7, .int qf_30), (H_23.size, 4, 0, .ref bd_30), (s.heap.size, 2, 1, .int qc_6), (s.heap.size, 2, 0, .ref qa_6)]) [0, 1, 2, 3, 4, 5, 6, 7, 8, 9, 10, 11, 12, 13, 14, 15, 16] rfl (M1 := [(bd_30, 100, m_bd_30, ca 0, gb_30)]) [0] rfl (I1 := [(jFl, jLs dC dI ca G_171 0 none wl), (jFs11, jSef dC dI G_171), (jFcd, jCD dC dI ca G_139 none tq), (jFy, jYb dC dI G_139)]) [0, 1, 3, 4] rfl
  clear hh_183
  have hh_186 := hh_185.addI (jDcc.ie hd_184)
  clear hh_185
  have hd_187 := jCD.grow (hh_186.iv 3 rfl) hb_1712 hE9_171 (by decide)
  have hh_188 := hh_186.sub (L1 := [(H_132.size, 7, 0, .ref names_170), (H_105.size, 2, 1, .int qc_112), (H_105.size, 2, 0, .ref qa_112), (H_79.size, 2, 1, .int qc_86), (H_79.size, 2, 0, .ref qa_86), (H_23.size, 4, 4, .int qb_30), (H_23.size, 4, 5, .int qp_30), (H_23.size, 4, 6, .int qo_30), (H_23.size, 4, 2, .int qk_30), (H_23.size, 4, 8, .int qg_30), (H_23.size, 4, 9, .int ql_30), (H_23.size, 4, 10, .int qd_30), (H_23.size, 4, 11, .int qv_30), (H_23.size, 4, 7, .int qf_30), (H_23.size, 4, 0, .ref bd_30), (s.heap.size, 2, 1, .int qc_6), (s.heap.size, 2, 0, .ref qa_6)]) [0, 1, 2, 3, 4, 5, 6, 7, 8, 9, 10, 11, 12, 13, 14, 15, 16] rfl (M1 := [(bd_30, 100, m_bd_30, ca 0, gb_30)]) [0] rfl (I1 := [(jFdo, jDcc dC dI ca G_171 none ph), (jFl, jLs dC dI ca G_171 0 none wl), (jFs11, jSef dC dI G_171), (jFy, jYb dC dI G_139)]) [0, 1, 2, 4] rfl
  clear hh_186
  have hh_189 := hh_188.addI (jCD.ie hd_187)
  clear hh_188
  have hd_190 := jYb.grow (hh_189.iv 4 rfl) hb_1712 hY_171 (by decide)
  have hh_191 := hh_189.sub (L1 := [(H_132.size, 7, 0, .ref names_170), (H_105.size, 2, 1, .int qc_112), (H_105.size, 2, 0, .ref qa_112), (H_79.size, 2, 1, .int qc_86), (H_79.size, 2, 0, .ref qa_86), (H_23.size, 4, 4, .int qb_30), (H_23.size, 4, 5, .int qp_30), (H_23.size, 4, 6, .int qo_30), (H_23.size, 4, 2, .int qk_30), (H_23.size, 4, 8, .int qg_30), (H_23.size, 4, 9, .int ql_30), (H_23.size, 4, 10, .int qd_30), (H_23.size, 4, 11, .int qv_30), (H_23.size, 4, 7, .int qf_30), (H_23.size, 4, 0, .ref bd_30), (s.heap.size, 2, 1, .int qc_6), (s.heap.size, 2, 0, .ref qa_6)]) [0, 1, 2, 3, 4, 5, 6, 7, 8, 9, 10, 11, 12, 13, 14, 15, 16] rfl (M1 := [(bd_30, 100, m_bd_30, ca 0, gb_30)]) [0] rfl (I1 := [(jFcd, jCD dC dI ca G_171 none tq), (jFdo, jDcc dC dI ca G_171 none ph), (jFl, jLs dC dI ca G_171 0 none wl), (jFs11, jSef dC dI G_171)]) [0, 1, 2, 3] rfl
  clear hh_189
  have hh_192 := hh_191.addI (jYb.ie hd_190)
  clear hh_191
  try simp only at hr_172
  have hkp_193 := hkp_164.in hbX_171 hsy_162
  have hraw_194x := hbX_171.ke hraw_165.lt hne_166 hraw_165n
  clear hne_166
  have hraw_194 := hraw_165.kept hraw_194x.1
  refine j7_putRF hx hb hown hK hh_192 hB hAp hraw_194 hraw_194x.2 hbr0 (C := RX11) (T := TX11) (N := 19) rfl (i := 6) (by decide) (Nat.le_of_ble_eq_true rfl) hly_13_6 rfl hin2 rfl hlk_54 (ty := (.object "ProofServer$Printer")) (v := .ref H_160.size) (by decide +kernel) rfl rfl dX11_init_94 (fun H_195 locs_195 hraw_195 hr_195 hh_195 => ?_)
  have hraw_195 : va_at (dC, dI) vwCl (r0, .inr (13, [.ref s.heap.size, .ref H_23.size, .ref H_51.size, .ref H_79.size, .ref H_105.size, .ref H_132.size, .ref H_160.size, .null, .null, .null, .null, .int 0, .int 0, .int 0, .int 0, .null, .null, .null, .int 0])) H_195 := hraw_195
  have hkp_196 := hkp_193.put hr_195
  clear hh_192
  refine lv_aload_n hx hb dX11_init_97 rfl (lv_at hl 0 rfl) ?_
  clear hsz_171 htt_171 hrc_171 hrs_171
  (try clear hb_1714); (try clear hb_1715); (try clear hz_171)
  have hsz_197 := hh_195.2.2.2.2.2.1
  have htt_197 := hh_195.2.2.2.2.2.2.1
  refine j7_newo (k := 1) (C := RJx4a65c) (T := TJx4a65c) (N := 3) (fs := [.int 0, .null, .int 0]) hx hb htw jWc_wsJx4a65c0 (fun k => ([.int, (.array (.object "java/lang/Object")), .int] : List FieldType).getD k .int) (by decide +kernel) hown (htw (.classLink RX11 58 RJx4a65c) (jWr_2 _ (List.mem_of_getElem? (i := 11) rfl))) (htw (.instantiable RJx4a65c 3) (jWr_2 _ (List.mem_of_getElem? (i := 12) rfl))) (htw (.initialized RJx4a65c) (jWr_2 _ (List.mem_of_getElem? (i := 13) rfl))) hK rfl (fun j hj => by rcases (by omega : j = 0 ∨ j = 1 ∨ j = 2) with rfl | rfl | rfl <;> rfl) hh_195 hB (by rw [hRc]; omega) (by rw [hRs]; omega) dX11_init_98 (fun H_197 hraw_197 hfr_197 hnr_197 hh_197 => ?_)
  have hlt_198 := hraw_195.lt
  have hke_197 : jKe G_171 G_171 H_195 H_197 := jKe.raw hfr_197
  have hbr_197 : base ≤ H_195.size := Nat.le_trans hbs hh_195.1.1
  have hsy_197 : s.heap.size ≤ H_195.size := hh_195.1.1
  clear hh_195
  have hkp_199 := hkp_196.tr hke_197
  have hraw_200n := hke_197.nr hraw_195.lt hraw_194x.2
  have hraw_200 := hraw_195.kept (hke_197.1 _ hraw_195.lt)
  have hne_201 : r0 ≠ H_195.size := Nat.ne_of_lt hlt_198
  refine lv_dup hx hb dX11_init_101 rfl ?_
  clear hsz_197 htt_197
  have hsz_202 := hh_197.2.2.2.2.2.1
  have htt_202 := hh_197.2.2.2.2.2.2.1
  refine W.room (fun hrc_202 hrs_202 => ?_)
  refine va_callv (A0 := jA base) (H0 := s.heap) (va_runI (As := []) (rest := [.ref H_195.size, .ref r0]) ⟨hx, hb, hml, hown, hts⟩ (uJx4a65c_init_da8c8C1 l dC dI ca base B hB hAp hB1 G_171 H_197 H_195.size wl LC LS) (cwI 0 hts (jgW (jWr_9 _ (List.mem_of_getElem? (i := 13) rfl))) rfl rfl rfl (htw (.initialized RJx4a65c) (jWr_2 _ (List.mem_of_getElem? (i := 13) rfl))) (htw (.methodLink RX11 60 yJx4a65c_init_da8c8) (jWr_9 _ (List.mem_of_getElem? (i := 11) rfl))) (htw (.instanceMethod yJx4a65c_init_da8c8) (jWr_9 _ (List.mem_of_getElem? (i := 12) rfl))) rfl (by decide +kernel) ⟨by rw [← hR]; exact Nat.le_of_ble_eq_true rfl, by rw [← hR]; exact Nat.le_of_ble_eq_true rfl⟩) ⟨fun a U g mk q => by obtain ⟨q0, q1, q2, qK, q10, q11, q12, q13, q14, q15, q16⟩ := q; exact ⟨q0, q1, q2, jG.calling g mk a qK, (jK7.calling g mk a q10), q11, q12, q13, q14, q15, q16⟩, fun U hU hW => ⟨rfl, hU, hh_197.2.1, hG.step hW hU hh_197.1, (hK7.step hW hU hh_197.1), hraw_197, hnr_197, hbr_197, jP.nil, (hh_197.2.2.2.2.2.2.2.2.sub (L1 := [(jFl, jLs dC dI ca G_171 0 none wl)]) [3] rfl), (by omega), (by omega), trivial⟩⟩ rfl rfl hl.1 rfl (lv_room (Nat.le_of_ble_eq_true rfl)) dX11_init_102 ⟨by rw [hRc]; omega, by rw [hRs]; omega⟩) hh_197.1 (fun q _ h => h) (fun q h => h) (fun u_202 t_202 H_202 locs_202 ht_202 hvm_202 hr_203 hb_202 hz_202 hk_202 hS_202 => ?_)
  rw [ht_202] at hb_202
  obtain ⟨G_202, rfl⟩ : ∃ z, z = u_202 := ⟨_, rfl⟩
  try simp only at hb_202
  obtain ⟨⟨hb_2021, hb_2022, hb_2023, hb_2024, hb_2025, hb_2026⟩, hN_202, hgc_202, hbX_202, hbE_202⟩ := hb_202
  have hE9_202 := hN_202
  try have hn3_202 : jNk [3] G0 G_202 := (hn3_171).tr (hE9_202.sub (ks1 := [3]) (by decide))
  have hY_202 := hN_202
  have hM_202 := hN_202
  have hN_202 : (jNk [0, 5, 10, 14, 15, 16]) G_171 G_202 := hN_202.sub (by decide)
  have hh_202 : jSt (dC, dI) B base G0 G_202 EX11_initU s.heap ((((((((((((((((0 + 1) + (1)) + 1) + (1)) + 1) + (8)) + 1) + (1)) + 1) + (1)) + 1) + (24)) + 1) + (3)) + 1) + (0)) ((((((((((((((((0 + 2) + (4000)) + 12) + (3000)) + 12) + (12012)) + 2) + (20000)) + 2) + (1024)) + 11) + (38990)) + 5) + (826)) + 3) + (0)) [(H_132.size, 7, 0, .ref names_170), (H_105.size, 2, 1, .int qc_112), (H_105.size, 2, 0, .ref qa_112), (H_79.size, 2, 1, .int qc_86), (H_79.size, 2, 0, .ref qa_86), (H_23.size, 4, 4, .int qb_30), (H_23.size, 4, 5, .int qp_30), (H_23.size, 4, 6, .int qo_30), (H_23.size, 4, 2, .int qk_30), (H_23.size, 4, 8, .int qg_30), (H_23.size, 4, 9, .int ql_30), (H_23.size, 4, 10, .int qd_30), (H_23.size, 4, 11, .int qv_30), (H_23.size, 4, 7, .int qf_30), (H_23.size, 4, 0, .ref bd_30), (s.heap.size, 2, 1, .int qc_6), (s.heap.size, 2, 0, .ref qa_6)] [(bd_30, 100, m_bd_30, ca 0, gb_30)] [(jFy, jYb dC dI G_171), (jFcd, jCD dC dI ca G_171 none tq), (jFdo, jDcc dC dI ca G_171 none ph), (jFs11, jSef dC dI G_171)] H_202 locs_202 := (hh_197.callG hb_2021 hb_2022 hb_2023 hb_2024 hb_2025 hS_202 rfl (L1 := [(H_132.size, 7, 0, .ref names_170), (H_105.size, 2, 1, .int qc_112), (H_105.size, 2, 0, .ref qa_112), (H_79.size, 2, 1, .int qc_86), (H_79.size, 2, 0, .ref qa_86), (H_23.size, 4, 4, .int qb_30), (H_23.size, 4, 5, .int qp_30), (H_23.size, 4, 6, .int qo_30), (H_23.size, 4, 2, .int qk_30), (H_23.size, 4, 8, .int qg_30), (H_23.size, 4, 9, .int ql_30), (H_23.size, 4, 10, .int qd_30), (H_23.size, 4, 11, .int qv_30), (H_23.size, 4, 7, .int qf_30), (H_23.size, 4, 0, .ref bd_30), (s.heap.size, 2, 1, .int qc_6), (s.heap.size, 2, 0, .ref qa_6)]) [0, 1, 2, 3, 4, 5, 6, 7, 8, 9, 10, 11, 12, 13, 14, 15, 16] rfl rfl (M1 := [(bd_30, 100, m_bd_30, ca 0, gb_30)]) [0] rfl rfl (I1 := [(jFy, jYb dC dI G_171), (jFcd, jCD dC dI ca G_171 none tq), (jFdo, jDcc dC dI ca G_171 none ph), (jFs11, jSef dC dI G_171)]) [0, 1, 2, 4] rfl rfl).more hb_2026
  have hNn_202 : (jNk [0, 5, 10, 14, 15, 16]) G0 G_202 := (hNn_171).tr hN_202
  have hg_204 := hb_2022 _ _ hg_173
  have hg_205 := hb_2022 _ _ hg_174
  have hg_206 := hb_2022 _ _ hg_175
  have hg_207 := hb_2022 _ _ hg_176
  have hg_208 := hb_2022 _ _ hg_177
  have hd_209 := jYb.grow (hh_202.iv 0 rfl) hb_2022 hY_202 (by decide)
  have hh_210 := hh_202.sub (L1 := [(H_132.size, 7, 0, .ref names_170), (H_105.size, 2, 1, .int qc_112), (H_105.size, 2, 0, .ref qa_112), (H_79.size, 2, 1, .int qc_86), (H_79.size, 2, 0, .ref qa_86), (H_23.size, 4, 4, .int qb_30), (H_23.size, 4, 5, .int qp_30), (H_23.size, 4, 6, .int qo_30), (H_23.size, 4, 2, .int qk_30), (H_23.size, 4, 8, .int qg_30), (H_23.size, 4, 9, .int ql_30), (H_23.size, 4, 10, .int qd_30), (H_23.size, 4, 11, .int qv_30), (H_23.size, 4, 7, .int qf_30), (H_23.size, 4, 0, .ref bd_30), (s.heap.size, 2, 1, .int qc_6), (s.heap.size, 2, 0, .ref qa_6)]) [0, 1, 2, 3, 4, 5, 6, 7, 8, 9, 10, 11, 12, 13, 14, 15, 16] rfl (M1 := [(bd_30, 100, m_bd_30, ca 0, gb_30)]) [0] rfl (I1 := [(jFcd, jCD dC dI ca G_171 none tq), (jFdo, jDcc dC dI ca G_171 none ph), (jFs11, jSef dC dI G_171)]) [1, 2, 3] rfl
  clear hh_202
  have hh_211 := hh_210.addI (jYb.ie hd_209)
  clear hh_210
  have hd_212 := jCD.grow (hh_211.iv 1 rfl) hb_2022 hE9_202 (by decide)
  have hh_213 := hh_211.sub (L1 := [(H_132.size, 7, 0, .ref names_170), (H_105.size, 2, 1, .int qc_112), (H_105.size, 2, 0, .ref qa_112), (H_79.size, 2, 1, .int qc_86), (H_79.size, 2, 0, .ref qa_86), (H_23.size, 4, 4, .int qb_30), (H_23.size, 4, 5, .int qp_30), (H_23.size, 4, 6, .int qo_30), (H_23.size, 4, 2, .int qk_30), (H_23.size, 4, 8, .int qg_30), (H_23.size, 4, 9, .int ql_30), (H_23.size, 4, 10, .int qd_30), (H_23.size, 4, 11, .int qv_30), (H_23.size, 4, 7, .int qf_30), (H_23.size, 4, 0, .ref bd_30), (s.heap.size, 2, 1, .int qc_6), (s.heap.size, 2, 0, .ref qa_6)]) [0, 1, 2, 3, 4, 5, 6, 7, 8, 9, 10, 11, 12, 13, 14, 15, 16] rfl (M1 := [(bd_30, 100, m_bd_30, ca 0, gb_30)]) [0] rfl (I1 := [(jFy, jYb dC dI G_202), (jFdo, jDcc dC dI ca G_171 none ph), (jFs11, jSef dC dI G_171)]) [0, 2, 3] rfl
  clear hh_211
  have hh_214 := hh_213.addI (jCD.ie hd_212)
  clear hh_213
  have hd_215 := jDcc.grow (hh_214.iv 2 rfl) hb_2022 hE9_202 (by decide)
  have hh_216 := hh_214.sub (L1 := [(H_132.size, 7, 0, .ref names_170), (H_105.size, 2, 1, .int qc_112), (H_105.size, 2, 0, .ref qa_112), (H_79.size, 2, 1, .int qc_86), (H_79.size, 2, 0, .ref qa_86), (H_23.size, 4, 4, .int qb_30), (H_23.size, 4, 5, .int qp_30), (H_23.size, 4, 6, .int qo_30), (H_23.size, 4, 2, .int qk_30), (H_23.size, 4, 8, .int qg_30), (H_23.size, 4, 9, .int ql_30), (H_23.size, 4, 10, .int qd_30), (H_23.size, 4, 11, .int qv_30), (H_23.size, 4, 7, .int qf_30), (H_23.size, 4, 0, .ref bd_30), (s.heap.size, 2, 1, .int qc_6), (s.heap.size, 2, 0, .ref qa_6)]) [0, 1, 2, 3, 4, 5, 6, 7, 8, 9, 10, 11, 12, 13, 14, 15, 16] rfl (M1 := [(bd_30, 100, m_bd_30, ca 0, gb_30)]) [0] rfl (I1 := [(jFcd, jCD dC dI ca G_202 none tq), (jFy, jYb dC dI G_202), (jFs11, jSef dC dI G_171)]) [0, 1, 3] rfl
  clear hh_214
  have hh_217 := hh_216.addI (jDcc.ie hd_215)
  clear hh_216
  have hd_218 := jSef.grow (hh_217.iv 3 rfl) hb_2022 hM_202 (by decide)
  have hh_219 := hh_217.sub (L1 := [(H_132.size, 7, 0, .ref names_170), (H_105.size, 2, 1, .int qc_112), (H_105.size, 2, 0, .ref qa_112), (H_79.size, 2, 1, .int qc_86), (H_79.size, 2, 0, .ref qa_86), (H_23.size, 4, 4, .int qb_30), (H_23.size, 4, 5, .int qp_30), (H_23.size, 4, 6, .int qo_30), (H_23.size, 4, 2, .int qk_30), (H_23.size, 4, 8, .int qg_30), (H_23.size, 4, 9, .int ql_30), (H_23.size, 4, 10, .int qd_30), (H_23.size, 4, 11, .int qv_30), (H_23.size, 4, 7, .int qf_30), (H_23.size, 4, 0, .ref bd_30), (s.heap.size, 2, 1, .int qc_6), (s.heap.size, 2, 0, .ref qa_6)]) [0, 1, 2, 3, 4, 5, 6, 7, 8, 9, 10, 11, 12, 13, 14, 15, 16] rfl (M1 := [(bd_30, 100, m_bd_30, ca 0, gb_30)]) [0] rfl (I1 := [(jFdo, jDcc dC dI ca G_202 none ph), (jFcd, jCD dC dI ca G_202 none tq), (jFy, jYb dC dI G_202)]) [0, 1, 2] rfl
  clear hh_217
  have hh_220 := hh_219.addI (jSef.ie hd_218)
  clear hh_219
  have hh_221 := hh_220.addIs hbE_202
  try simp only at hr_203
  have hkp_222 := hkp_199.in hbX_202 hsy_197
  have hraw_223x := hbX_202.ke hraw_200.lt hne_201 hraw_200n
  clear hne_201
  have hraw_223 := hraw_200.kept hraw_223x.1
  refine j7_putRF hx hb hown hK hh_221 hB hAp hraw_223 hraw_223x.2 hbr0 (C := RX11) (T := TX11) (N := 19) rfl (i := 7) (by decide) (Nat.le_of_ble_eq_true rfl) hly_13_7 rfl hin2 rfl hlk_61 (ty := (.object "java/util/List")) (v := .ref H_195.size) (by decide +kernel) rfl rfl dX11_init_105 (fun H_224 locs_224 hraw_224 hr_224 hh_224 => ?_)
  have hraw_224 : va_at (dC, dI) vwCl (r0, .inr (13, [.ref s.heap.size, .ref H_23.size, .ref H_51.size, .ref H_79.size, .ref H_105.size, .ref H_132.size, .ref H_160.size, .ref H_195.size, .null, .null, .null, .int 0, .int 0, .int 0, .int 0, .null, .null, .null, .int 0])) H_224 := hraw_224
  have hkp_225 := hkp_222.put hr_224
  clear hh_221
  refine lv_aload_n hx hb dX11_init_108 rfl (lv_at hl 0 rfl) ?_
  clear hsz_202 htt_202 hrc_202 hrs_202
  (try clear hb_2024); (try clear hb_2025); (try clear hz_202)
  have hsz_226 := hh_224.2.2.2.2.2.1
  have htt_226 := hh_224.2.2.2.2.2.2.1
  refine j7_newo (k := 1) (C := RJx4a65c) (T := TJx4a65c) (N := 3) (fs := [.int 0, .null, .int 0]) hx hb htw jWc_wsJx4a65c0 (fun k => ([.int, (.array (.object "java/lang/Object")), .int] : List FieldType).getD k .int) (by decide +kernel) hown (htw (.classLink RX11 58 RJx4a65c) (jWr_2 _ (List.mem_of_getElem? (i := 11) rfl))) (htw (.instantiable RJx4a65c 3) (jWr_2 _ (List.mem_of_getElem? (i := 12) rfl))) (htw (.initialized RJx4a65c) (jWr_2 _ (List.mem_of_getElem? (i := 13) rfl))) hK rfl (fun j hj => by rcases (by omega : j = 0 ∨ j = 1 ∨ j = 2) with rfl | rfl | rfl <;> rfl) hh_224 hB (by rw [hRc]; omega) (by rw [hRs]; omega) dX11_init_109 (fun H_226 hraw_226 hfr_226 hnr_226 hh_226 => ?_)
  have hlt_227 := hraw_224.lt
  have hke_226 : jKe G_202 G_202 H_224 H_226 := jKe.raw hfr_226
  have hbr_226 : base ≤ H_224.size := Nat.le_trans hbs hh_224.1.1
  have hsy_226 : s.heap.size ≤ H_224.size := hh_224.1.1
  clear hh_224
  have hkp_228 := hkp_225.tr hke_226
  have hraw_229n := hke_226.nr hraw_224.lt hraw_223x.2
  have hraw_229 := hraw_224.kept (hke_226.1 _ hraw_224.lt)
  have hne_230 : r0 ≠ H_224.size := Nat.ne_of_lt hlt_227
  refine lv_dup hx hb dX11_init_112 rfl ?_
  clear hsz_226 htt_226
  have hsz_231 := hh_226.2.2.2.2.2.1
  have htt_231 := hh_226.2.2.2.2.2.2.1
  refine W.room (fun hrc_231 hrs_231 => ?_)
  refine va_callv (A0 := jA base) (H0 := s.heap) (va_runI (As := []) (rest := [.ref H_224.size, .ref r0]) ⟨hx, hb, hml, hown, hts⟩ (uJx4a65c_init_da8c8C2 l dC dI ca base B hB hAp hB1 G_202 H_226 H_224.size (0, wl.2) LC LS) (cwI 0 hts (jgW (jWr_9 _ (List.mem_of_getElem? (i := 13) rfl))) rfl rfl rfl (htw (.initialized RJx4a65c) (jWr_2 _ (List.mem_of_getElem? (i := 13) rfl))) (htw (.methodLink RX11 60 yJx4a65c_init_da8c8) (jWr_9 _ (List.mem_of_getElem? (i := 11) rfl))) (htw (.instanceMethod yJx4a65c_init_da8c8) (jWr_9 _ (List.mem_of_getElem? (i := 12) rfl))) rfl (by decide +kernel) ⟨by rw [← hR]; exact Nat.le_of_ble_eq_true rfl, by rw [← hR]; exact Nat.le_of_ble_eq_true rfl⟩) ⟨fun a U g mk q => by obtain ⟨q0, q1, q2, qK, q10, q11, q12, q13, q14, q15, q16⟩ := q; exact ⟨q0, q1, q2, jG.calling g mk a qK, (jK7.calling g mk a q10), q11, q12, q13, q14, q15, q16⟩, fun U hU hW => ⟨rfl, hU, hh_226.2.1, hG.step hW hU hh_226.1, (hK7.step hW hU hh_226.1), hraw_226, hnr_226, hbr_226, jP.nil, (hh_226.2.2.2.2.2.2.2.2.sub (L1 := [(jFl, jLs dC dI ca G_202 1 none (0, wl.2))]) [0] rfl), (by omega), (by omega), trivial⟩⟩ rfl rfl hl.1 rfl (lv_room (Nat.le_of_ble_eq_true rfl)) dX11_init_113 ⟨by rw [hRc]; omega, by rw [hRs]; omega⟩) hh_226.1 (fun q _ h => h) (fun q h => h) (fun u_231 t_231 H_231 locs_231 ht_231 hvm_231 hr_232 hb_231 hz_231 hk_231 hS_231 => ?_)
  rw [ht_231] at hb_231
  obtain ⟨G_231, rfl⟩ : ∃ z, z = u_231 := ⟨_, rfl⟩
  try simp only at hb_231
  obtain ⟨⟨hb_2311, hb_2312, hb_2313, hb_2314, hb_2315, hb_2316⟩, hN_231, hgc_231, hbX_231, hbE_231⟩ := hb_231
  have hE9_231 := hN_231
  try have hn3_231 : jNk [3] G0 G_231 := (hn3_202).tr (hE9_231.sub (ks1 := [3]) (by decide))
  have hY_231 := hN_231
  have hM_231 := hN_231
  have hN_231 : (jNk [0, 5, 10, 14, 15, 16]) G_202 G_231 := hN_231.sub (by decide)
  have hh_231 : jSt (dC, dI) B base G0 G_231 EX11_initU s.heap ((((((((((((((((((0 + 1) + (1)) + 1) + (1)) + 1) + (8)) + 1) + (1)) + 1) + (1)) + 1) + (24)) + 1) + (3)) + 1) + (0)) + 1) + (0)) ((((((((((((((((((0 + 2) + (4000)) + 12) + (3000)) + 12) + (12012)) + 2) + (20000)) + 2) + (1024)) + 11) + (38990)) + 5) + (826)) + 3) + (0)) + 3) + (0)) [(H_132.size, 7, 0, .ref names_170), (H_105.size, 2, 1, .int qc_112), (H_105.size, 2, 0, .ref qa_112), (H_79.size, 2, 1, .int qc_86), (H_79.size, 2, 0, .ref qa_86), (H_23.size, 4, 4, .int qb_30), (H_23.size, 4, 5, .int qp_30), (H_23.size, 4, 6, .int qo_30), (H_23.size, 4, 2, .int qk_30), (H_23.size, 4, 8, .int qg_30), (H_23.size, 4, 9, .int ql_30), (H_23.size, 4, 10, .int qd_30), (H_23.size, 4, 11, .int qv_30), (H_23.size, 4, 7, .int qf_30), (H_23.size, 4, 0, .ref bd_30), (s.heap.size, 2, 1, .int qc_6), (s.heap.size, 2, 0, .ref qa_6)] [(bd_30, 100, m_bd_30, ca 0, gb_30)] [(jFs11, jSef dC dI G_202), (jFdo, jDcc dC dI ca G_202 none ph), (jFcd, jCD dC dI ca G_202 none tq), (jFy, jYb dC dI G_202)] H_231 locs_231 := (hh_226.callG hb_2311 hb_2312 hb_2313 hb_2314 hb_2315 hS_231 rfl (L1 := [(H_132.size, 7, 0, .ref names_170), (H_105.size, 2, 1, .int qc_112), (H_105.size, 2, 0, .ref qa_112), (H_79.size, 2, 1, .int qc_86), (H_79.size, 2, 0, .ref qa_86), (H_23.size, 4, 4, .int qb_30), (H_23.size, 4, 5, .int qp_30), (H_23.size, 4, 6, .int qo_30), (H_23.size, 4, 2, .int qk_30), (H_23.size, 4, 8, .int qg_30), (H_23.size, 4, 9, .int ql_30), (H_23.size, 4, 10, .int qd_30), (H_23.size, 4, 11, .int qv_30), (H_23.size, 4, 7, .int qf_30), (H_23.size, 4, 0, .ref bd_30), (s.heap.size, 2, 1, .int qc_6), (s.heap.size, 2, 0, .ref qa_6)]) [0, 1, 2, 3, 4, 5, 6, 7, 8, 9, 10, 11, 12, 13, 14, 15, 16] rfl rfl (M1 := [(bd_30, 100, m_bd_30, ca 0, gb_30)]) [0] rfl rfl (I1 := [(jFs11, jSef dC dI G_202), (jFdo, jDcc dC dI ca G_202 none ph), (jFcd, jCD dC dI ca G_202 none tq), (jFy, jYb dC dI G_202)]) [1, 2, 3, 4] rfl rfl).more hb_2316
  have hNn_231 : (jNk [0, 5, 10, 14, 15, 16]) G0 G_231 := (hNn_202).tr hN_231
  have hg_233 := hb_2312 _ _ hg_204
  have hg_234 := hb_2312 _ _ hg_205
  have hg_235 := hb_2312 _ _ hg_206
  have hg_236 := hb_2312 _ _ hg_207
  have hg_237 := hb_2312 _ _ hg_208
  have hd_238 := jSef.grow (hh_231.iv 0 rfl) hb_2312 hM_231 (by decide)
  have hh_239 := hh_231.sub (L1 := [(H_132.size, 7, 0, .ref names_170), (H_105.size, 2, 1, .int qc_112), (H_105.size, 2, 0, .ref qa_112), (H_79.size, 2, 1, .int qc_86), (H_79.size, 2, 0, .ref qa_86), (H_23.size, 4, 4, .int qb_30), (H_23.size, 4, 5, .int qp_30), (H_23.size, 4, 6, .int qo_30), (H_23.size, 4, 2, .int qk_30), (H_23.size, 4, 8, .int qg_30), (H_23.size, 4, 9, .int ql_30), (H_23.size, 4, 10, .int qd_30), (H_23.size, 4, 11, .int qv_30), (H_23.size, 4, 7, .int qf_30), (H_23.size, 4, 0, .ref bd_30), (s.heap.size, 2, 1, .int qc_6), (s.heap.size, 2, 0, .ref qa_6)]) [0, 1, 2, 3, 4, 5, 6, 7, 8, 9, 10, 11, 12, 13, 14, 15, 16] rfl (M1 := [(bd_30, 100, m_bd_30, ca 0, gb_30)]) [0] rfl (I1 := [(jFdo, jDcc dC dI ca G_202 none ph), (jFcd, jCD dC dI ca G_202 none tq), (jFy, jYb dC dI G_202)]) [1, 2, 3] rfl
  clear hh_231
  have hh_240 := hh_239.addI (jSef.ie hd_238)
  clear hh_239
  have hd_241 := jDcc.grow (hh_240.iv 1 rfl) hb_2312 hE9_231 (by decide)
  have hh_242 := hh_240.sub (L1 := [(H_132.size, 7, 0, .ref names_170), (H_105.size, 2, 1, .int qc_112), (H_105.size, 2, 0, .ref qa_112), (H_79.size, 2, 1, .int qc_86), (H_79.size, 2, 0, .ref qa_86), (H_23.size, 4, 4, .int qb_30), (H_23.size, 4, 5, .int qp_30), (H_23.size, 4, 6, .int qo_30), (H_23.size, 4, 2, .int qk_30), (H_23.size, 4, 8, .int qg_30), (H_23.size, 4, 9, .int ql_30), (H_23.size, 4, 10, .int qd_30), (H_23.size, 4, 11, .int qv_30), (H_23.size, 4, 7, .int qf_30), (H_23.size, 4, 0, .ref bd_30), (s.heap.size, 2, 1, .int qc_6), (s.heap.size, 2, 0, .ref qa_6)]) [0, 1, 2, 3, 4, 5, 6, 7, 8, 9, 10, 11, 12, 13, 14, 15, 16] rfl (M1 := [(bd_30, 100, m_bd_30, ca 0, gb_30)]) [0] rfl (I1 := [(jFs11, jSef dC dI G_231), (jFcd, jCD dC dI ca G_202 none tq), (jFy, jYb dC dI G_202)]) [0, 2, 3] rfl
  clear hh_240
  have hh_243 := hh_242.addI (jDcc.ie hd_241)
  clear hh_242
  have hd_244 := jCD.grow (hh_243.iv 2 rfl) hb_2312 hE9_231 (by decide)
  have hh_245 := hh_243.sub (L1 := [(H_132.size, 7, 0, .ref names_170), (H_105.size, 2, 1, .int qc_112), (H_105.size, 2, 0, .ref qa_112), (H_79.size, 2, 1, .int qc_86), (H_79.size, 2, 0, .ref qa_86), (H_23.size, 4, 4, .int qb_30), (H_23.size, 4, 5, .int qp_30), (H_23.size, 4, 6, .int qo_30), (H_23.size, 4, 2, .int qk_30), (H_23.size, 4, 8, .int qg_30), (H_23.size, 4, 9, .int ql_30), (H_23.size, 4, 10, .int qd_30), (H_23.size, 4, 11, .int qv_30), (H_23.size, 4, 7, .int qf_30), (H_23.size, 4, 0, .ref bd_30), (s.heap.size, 2, 1, .int qc_6), (s.heap.size, 2, 0, .ref qa_6)]) [0, 1, 2, 3, 4, 5, 6, 7, 8, 9, 10, 11, 12, 13, 14, 15, 16] rfl (M1 := [(bd_30, 100, m_bd_30, ca 0, gb_30)]) [0] rfl (I1 := [(jFdo, jDcc dC dI ca G_231 none ph), (jFs11, jSef dC dI G_231), (jFy, jYb dC dI G_202)]) [0, 1, 3] rfl
  clear hh_243
  have hh_246 := hh_245.addI (jCD.ie hd_244)
  clear hh_245
  have hd_247 := jYb.grow (hh_246.iv 3 rfl) hb_2312 hY_231 (by decide)
  have hh_248 := hh_246.sub (L1 := [(H_132.size, 7, 0, .ref names_170), (H_105.size, 2, 1, .int qc_112), (H_105.size, 2, 0, .ref qa_112), (H_79.size, 2, 1, .int qc_86), (H_79.size, 2, 0, .ref qa_86), (H_23.size, 4, 4, .int qb_30), (H_23.size, 4, 5, .int qp_30), (H_23.size, 4, 6, .int qo_30), (H_23.size, 4, 2, .int qk_30), (H_23.size, 4, 8, .int qg_30), (H_23.size, 4, 9, .int ql_30), (H_23.size, 4, 10, .int qd_30), (H_23.size, 4, 11, .int qv_30), (H_23.size, 4, 7, .int qf_30), (H_23.size, 4, 0, .ref bd_30), (s.heap.size, 2, 1, .int qc_6), (s.heap.size, 2, 0, .ref qa_6)]) [0, 1, 2, 3, 4, 5, 6, 7, 8, 9, 10, 11, 12, 13, 14, 15, 16] rfl (M1 := [(bd_30, 100, m_bd_30, ca 0, gb_30)]) [0] rfl (I1 := [(jFcd, jCD dC dI ca G_231 none tq), (jFdo, jDcc dC dI ca G_231 none ph), (jFs11, jSef dC dI G_231)]) [0, 1, 2] rfl
  clear hh_246
  have hh_249 := hh_248.addI (jYb.ie hd_247)
  clear hh_248
  have hh_250 := hh_249.addIs hbE_231
  try simp only at hr_232
  have hkp_251 := hkp_228.in hbX_231 hsy_226
  have hraw_252x := hbX_231.ke hraw_229.lt hne_230 hraw_229n
  clear hne_230
  have hraw_252 := hraw_229.kept hraw_252x.1
  refine j7_putRF hx hb hown hK hh_250 hB hAp hraw_252 hraw_252x.2 hbr0 (C := RX11) (T := TX11) (N := 19) rfl (i := 8) (by decide) (Nat.le_of_ble_eq_true rfl) hly_13_8 rfl hin2 rfl hlk_65 (ty := (.object "java/util/List")) (v := .ref H_224.size) (by decide +kernel) rfl rfl dX11_init_116 (fun H_253 locs_253 hraw_253 hr_253 hh_253 => ?_)
  have hraw_253 : va_at (dC, dI) vwCl (r0, .inr (13, [.ref s.heap.size, .ref H_23.size, .ref H_51.size, .ref H_79.size, .ref H_105.size, .ref H_132.size, .ref H_160.size, .ref H_195.size, .ref H_224.size, .null, .null, .int 0, .int 0, .int 0, .int 0, .null, .null, .null, .int 0])) H_253 := hraw_253
  have hkp_254 := hkp_251.put hr_253
  clear hh_250
  refine lv_aload_n hx hb dX11_init_119 rfl (lv_at hl 0 rfl) ?_
  clear hsz_231 htt_231 hrc_231 hrs_231
  (try clear hb_2314); (try clear hb_2315); (try clear hz_231)
  have hsz_255 := hh_253.2.2.2.2.2.1
  have htt_255 := hh_253.2.2.2.2.2.2.1
  refine j7_newo (k := 1) (C := RJx4a65c) (T := TJx4a65c) (N := 3) (fs := [.int 0, .null, .int 0]) hx hb htw jWc_wsJx4a65c0 (fun k => ([.int, (.array (.object "java/lang/Object")), .int] : List FieldType).getD k .int) (by decide +kernel) hown (htw (.classLink RX11 58 RJx4a65c) (jWr_2 _ (List.mem_of_getElem? (i := 11) rfl))) (htw (.instantiable RJx4a65c 3) (jWr_2 _ (List.mem_of_getElem? (i := 12) rfl))) (htw (.initialized RJx4a65c) (jWr_2 _ (List.mem_of_getElem? (i := 13) rfl))) hK rfl (fun j hj => by rcases (by omega : j = 0 ∨ j = 1 ∨ j = 2) with rfl | rfl | rfl <;> rfl) hh_253 hB (by rw [hRc]; omega) (by rw [hRs]; omega) dX11_init_120 (fun H_255 hraw_255 hfr_255 hnr_255 hh_255 => ?_)
  have hlt_256 := hraw_253.lt
  have hke_255 : jKe G_231 G_231 H_253 H_255 := jKe.raw hfr_255
  have hbr_255 : base ≤ H_253.size := Nat.le_trans hbs hh_253.1.1
  have hsy_255 : s.heap.size ≤ H_253.size := hh_253.1.1
  clear hh_253
  have hkp_257 := hkp_254.tr hke_255
  have hraw_258n := hke_255.nr hraw_253.lt hraw_252x.2
  have hraw_258 := hraw_253.kept (hke_255.1 _ hraw_253.lt)
  have hne_259 : r0 ≠ H_253.size := Nat.ne_of_lt hlt_256
  refine lv_dup hx hb dX11_init_123 rfl ?_
  clear hsz_255 htt_255
  have hsz_260 := hh_255.2.2.2.2.2.1
  have htt_260 := hh_255.2.2.2.2.2.2.1
  refine W.room (fun hrc_260 hrs_260 => ?_)
  refine va_callv (A0 := jA base) (H0 := s.heap) (va_runI (As := []) (rest := [.ref H_253.size, .ref r0]) ⟨hx, hb, hml, hown, hts⟩ (uJx4a65c_init_da8c8C3 l dC dI ca base B hB hAp hB1 G_231 H_255 H_253.size (0, wl.2) LC LS) (cwI 0 hts (jgW (jWr_9 _ (List.mem_of_getElem? (i := 13) rfl))) rfl rfl rfl (htw (.initialized RJx4a65c) (jWr_2 _ (List.mem_of_getElem? (i := 13) rfl))) (htw (.methodLink RX11 60 yJx4a65c_init_da8c8) (jWr_9 _ (List.mem_of_getElem? (i := 11) rfl))) (htw (.instanceMethod yJx4a65c_init_da8c8) (jWr_9 _ (List.mem_of_getElem? (i := 12) rfl))) rfl (by decide +kernel) ⟨by rw [← hR]; exact Nat.le_of_ble_eq_true rfl, by rw [← hR]; exact Nat.le_of_ble_eq_true rfl⟩) ⟨fun a U g mk q => by obtain ⟨q0, q1, q2, qK, q10, q11, q12, q13, q14, q15, q16⟩ := q; exact ⟨q0, q1, q2, jG.calling g mk a qK, (jK7.calling g mk a q10), q11, q12, q13, q14, q15, q16⟩, fun U hU hW => ⟨rfl, hU, hh_255.2.1, hG.step hW hU hh_255.1, (hK7.step hW hU hh_255.1), hraw_255, hnr_255, hbr_255, jP.nil, (hh_255.2.2.2.2.2.2.2.2.sub (L1 := [(jFl, jLs dC dI ca G_231 2 none (0, wl.2))]) [0] rfl), (by omega), (by omega), trivial⟩⟩ rfl rfl hl.1 rfl (lv_room (Nat.le_of_ble_eq_true rfl)) dX11_init_124 ⟨by rw [hRc]; omega, by rw [hRs]; omega⟩) hh_255.1 (fun q _ h => h) (fun q h => h) (fun u_260 t_260 H_260 locs_260 ht_260 hvm_260 hr_261 hb_260 hz_260 hk_260 hS_260 => ?_)
  rw [ht_260] at hb_260
  obtain ⟨G_260, rfl⟩ : ∃ z, z = u_260 := ⟨_, rfl⟩
  try simp only at hb_260
  obtain ⟨⟨hb_2601, hb_2602, hb_2603, hb_2604, hb_2605, hb_2606⟩, hN_260, hgc_260, hbX_260, hbE_260⟩ := hb_260
  have hE9_260 := hN_260
  try have hn3_260 : jNk [3] G0 G_260 := (hn3_231).tr (hE9_260.sub (ks1 := [3]) (by decide))
  have hY_260 := hN_260
  have hM_260 := hN_260
  have hN_260 : (jNk [0, 5, 10, 14, 15, 16]) G_231 G_260 := hN_260.sub (by decide)
  have hh_260 : jSt (dC, dI) B base G0 G_260 EX11_initU s.heap ((((((((((((((((((((0 + 1) + (1)) + 1) + (1)) + 1) + (8)) + 1) + (1)) + 1) + (1)) + 1) + (24)) + 1) + (3)) + 1) + (0)) + 1) + (0)) + 1) + (0)) ((((((((((((((((((((0 + 2) + (4000)) + 12) + (3000)) + 12) + (12012)) + 2) + (20000)) + 2) + (1024)) + 11) + (38990)) + 5) + (826)) + 3) + (0)) + 3) + (0)) + 3) + (0)) [(H_132.size, 7, 0, .ref names_170), (H_105.size, 2, 1, .int qc_112), (H_105.size, 2, 0, .ref qa_112), (H_79.size, 2, 1, .int qc_86), (H_79.size, 2, 0, .ref qa_86), (H_23.size, 4, 4, .int qb_30), (H_23.size, 4, 5, .int qp_30), (H_23.size, 4, 6, .int qo_30), (H_23.size, 4, 2, .int qk_30), (H_23.size, 4, 8, .int qg_30), (H_23.size, 4, 9, .int ql_30), (H_23.size, 4, 10, .int qd_30), (H_23.size, 4, 11, .int qv_30), (H_23.size, 4, 7, .int qf_30), (H_23.size, 4, 0, .ref bd_30), (s.heap.size, 2, 1, .int qc_6), (s.heap.size, 2, 0, .ref qa_6)] [(bd_30, 100, m_bd_30, ca 0, gb_30)] [(jFy, jYb dC dI G_231), (jFcd, jCD dC dI ca G_231 none tq), (jFdo, jDcc dC dI ca G_231 none ph), (jFs11, jSef dC dI G_231)] H_260 locs_260 := (hh_255.callG hb_2601 hb_2602 hb_2603 hb_2604 hb_2605 hS_260 rfl (L1 := [(H_132.size, 7, 0, .ref names_170), (H_105.size, 2, 1, .int qc_112), (H_105.size, 2, 0, .ref qa_112), (H_79.size, 2, 1, .int qc_86), (H_79.size, 2, 0, .ref qa_86), (H_23.size, 4, 4, .int qb_30), (H_23.size, 4, 5, .int qp_30), (H_23.size, 4, 6, .int qo_30), (H_23.size, 4, 2, .int qk_30), (H_23.size, 4, 8, .int qg_30), (H_23.size, 4, 9, .int ql_30), (H_23.size, 4, 10, .int qd_30), (H_23.size, 4, 11, .int qv_30), (H_23.size, 4, 7, .int qf_30), (H_23.size, 4, 0, .ref bd_30), (s.heap.size, 2, 1, .int qc_6), (s.heap.size, 2, 0, .ref qa_6)]) [0, 1, 2, 3, 4, 5, 6, 7, 8, 9, 10, 11, 12, 13, 14, 15, 16] rfl rfl (M1 := [(bd_30, 100, m_bd_30, ca 0, gb_30)]) [0] rfl rfl (I1 := [(jFy, jYb dC dI G_231), (jFcd, jCD dC dI ca G_231 none tq), (jFdo, jDcc dC dI ca G_231 none ph), (jFs11, jSef dC dI G_231)]) [1, 2, 3, 4] rfl rfl).more hb_2606
  have hNn_260 : (jNk [0, 5, 10, 14, 15, 16]) G0 G_260 := (hNn_231).tr hN_260
  have hg_262 := hb_2602 _ _ hg_233
  have hg_263 := hb_2602 _ _ hg_234
  have hg_264 := hb_2602 _ _ hg_235
  have hg_265 := hb_2602 _ _ hg_236
  have hg_266 := hb_2602 _ _ hg_237
  have hd_267 := jYb.grow (hh_260.iv 0 rfl) hb_2602 hY_260 (by decide)
  have hh_268 := hh_260.sub (L1 := [(H_132.size, 7, 0, .ref names_170), (H_105.size, 2, 1, .int qc_112), (H_105.size, 2, 0, .ref qa_112), (H_79.size, 2, 1, .int qc_86), (H_79.size, 2, 0, .ref qa_86), (H_23.size, 4, 4, .int qb_30), (H_23.size, 4, 5, .int qp_30), (H_23.size, 4, 6, .int qo_30), (H_23.size, 4, 2, .int qk_30), (H_23.size, 4, 8, .int qg_30), (H_23.size, 4, 9, .int ql_30), (H_23.size, 4, 10, .int qd_30), (H_23.size, 4, 11, .int qv_30), (H_23.size, 4, 7, .int qf_30), (H_23.size, 4, 0, .ref bd_30), (s.heap.size, 2, 1, .int qc_6), (s.heap.size, 2, 0, .ref qa_6)]) [0, 1, 2, 3, 4, 5, 6, 7, 8, 9, 10, 11, 12, 13, 14, 15, 16] rfl (M1 := [(bd_30, 100, m_bd_30, ca 0, gb_30)]) [0] rfl (I1 := [(jFcd, jCD dC dI ca G_231 none tq), (jFdo, jDcc dC dI ca G_231 none ph), (jFs11, jSef dC dI G_231)]) [1, 2, 3] rfl
  clear hh_260
  have hh_269 := hh_268.addI (jYb.ie hd_267)
  clear hh_268
  have hd_270 := jCD.grow (hh_269.iv 1 rfl) hb_2602 hE9_260 (by decide)
  have hh_271 := hh_269.sub (L1 := [(H_132.size, 7, 0, .ref names_170), (H_105.size, 2, 1, .int qc_112), (H_105.size, 2, 0, .ref qa_112), (H_79.size, 2, 1, .int qc_86), (H_79.size, 2, 0, .ref qa_86), (H_23.size, 4, 4, .int qb_30), (H_23.size, 4, 5, .int qp_30), (H_23.size, 4, 6, .int qo_30), (H_23.size, 4, 2, .int qk_30), (H_23.size, 4, 8, .int qg_30), (H_23.size, 4, 9, .int ql_30), (H_23.size, 4, 10, .int qd_30), (H_23.size, 4, 11, .int qv_30), (H_23.size, 4, 7, .int qf_30), (H_23.size, 4, 0, .ref bd_30), (s.heap.size, 2, 1, .int qc_6), (s.heap.size, 2, 0, .ref qa_6)]) [0, 1, 2, 3, 4, 5, 6, 7, 8, 9, 10, 11, 12, 13, 14, 15, 16] rfl (M1 := [(bd_30, 100, m_bd_30, ca 0, gb_30)]) [0] rfl (I1 := [(jFy, jYb dC dI G_260), (jFdo, jDcc dC dI ca G_231 none ph), (jFs11, jSef dC dI G_231)]) [0, 2, 3] rfl
  clear hh_269
  have hh_272 := hh_271.addI (jCD.ie hd_270)
  clear hh_271
  have hd_273 := jDcc.grow (hh_272.iv 2 rfl) hb_2602 hE9_260 (by decide)
  have hh_274 := hh_272.sub (L1 := [(H_132.size, 7, 0, .ref names_170), (H_105.size, 2, 1, .int qc_112), (H_105.size, 2, 0, .ref qa_112), (H_79.size, 2, 1, .int qc_86), (H_79.size, 2, 0, .ref qa_86), (H_23.size, 4, 4, .int qb_30), (H_23.size, 4, 5, .int qp_30), (H_23.size, 4, 6, .int qo_30), (H_23.size, 4, 2, .int qk_30), (H_23.size, 4, 8, .int qg_30), (H_23.size, 4, 9, .int ql_30), (H_23.size, 4, 10, .int qd_30), (H_23.size, 4, 11, .int qv_30), (H_23.size, 4, 7, .int qf_30), (H_23.size, 4, 0, .ref bd_30), (s.heap.size, 2, 1, .int qc_6), (s.heap.size, 2, 0, .ref qa_6)]) [0, 1, 2, 3, 4, 5, 6, 7, 8, 9, 10, 11, 12, 13, 14, 15, 16] rfl (M1 := [(bd_30, 100, m_bd_30, ca 0, gb_30)]) [0] rfl (I1 := [(jFcd, jCD dC dI ca G_260 none tq), (jFy, jYb dC dI G_260), (jFs11, jSef dC dI G_231)]) [0, 1, 3] rfl
  clear hh_272
  have hh_275 := hh_274.addI (jDcc.ie hd_273)
  clear hh_274
  have hd_276 := jSef.grow (hh_275.iv 3 rfl) hb_2602 hM_260 (by decide)
  have hh_277 := hh_275.sub (L1 := [(H_132.size, 7, 0, .ref names_170), (H_105.size, 2, 1, .int qc_112), (H_105.size, 2, 0, .ref qa_112), (H_79.size, 2, 1, .int qc_86), (H_79.size, 2, 0, .ref qa_86), (H_23.size, 4, 4, .int qb_30), (H_23.size, 4, 5, .int qp_30), (H_23.size, 4, 6, .int qo_30), (H_23.size, 4, 2, .int qk_30), (H_23.size, 4, 8, .int qg_30), (H_23.size, 4, 9, .int ql_30), (H_23.size, 4, 10, .int qd_30), (H_23.size, 4, 11, .int qv_30), (H_23.size, 4, 7, .int qf_30), (H_23.size, 4, 0, .ref bd_30), (s.heap.size, 2, 1, .int qc_6), (s.heap.size, 2, 0, .ref qa_6)]) [0, 1, 2, 3, 4, 5, 6, 7, 8, 9, 10, 11, 12, 13, 14, 15, 16] rfl (M1 := [(bd_30, 100, m_bd_30, ca 0, gb_30)]) [0] rfl (I1 := [(jFdo, jDcc dC dI ca G_260 none ph), (jFcd, jCD dC dI ca G_260 none tq), (jFy, jYb dC dI G_260)]) [0, 1, 2] rfl
  clear hh_275
  have hh_278 := hh_277.addI (jSef.ie hd_276)
  clear hh_277
  have hh_279 := hh_278.addIs hbE_260
  try simp only at hr_261
  have hkp_280 := hkp_257.in hbX_260 hsy_255
  have hraw_281x := hbX_260.ke hraw_258.lt hne_259 hraw_258n
  clear hne_259
  have hraw_281 := hraw_258.kept hraw_281x.1
  refine j7_putRF hx hb hown hK hh_279 hB hAp hraw_281 hraw_281x.2 hbr0 (C := RX11) (T := TX11) (N := 19) rfl (i := 9) (by decide) (Nat.le_of_ble_eq_true rfl) hly_13_9 rfl hin2 rfl hlk_68 (ty := (.object "java/util/List")) (v := .ref H_253.size) (by decide +kernel) rfl rfl dX11_init_127 (fun H_282 locs_282 hraw_282 hr_282 hh_282 => ?_)
  have hraw_282 : va_at (dC, dI) vwCl (r0, .inr (13, [.ref s.heap.size, .ref H_23.size, .ref H_51.size, .ref H_79.size, .ref H_105.size, .ref H_132.size, .ref H_160.size, .ref H_195.size, .ref H_224.size, .ref H_253.size, .null, .int 0, .int 0, .int 0, .int 0, .null, .null, .null, .int 0])) H_282 := hraw_282
  have hkp_283 := hkp_280.put hr_282
  clear hh_279
  refine lv_aload_n hx hb dX11_init_130 rfl (lv_at hl 0 rfl) ?_
  refine lv_iconst (v := 2) hx hb dX11_init_131 (by decide) ?_
  clear hsz_260 htt_260 hrc_260 hrs_260
  (try clear hb_2604); (try clear hb_2605); (try clear hz_260)
  have hsz_284 := hh_282.2.2.2.2.2.1
  have htt_284 := hh_282.2.2.2.2.2.2.1
  have hsy_284 : s.heap.size ≤ H_282.size := hh_282.1.1
  refine j7_newqK hx hb hown (htw (.classLink RX11 71 RX1) (jWr_2 _ (List.mem_of_getElem? (i := 17) rfl))) hK6.2.1 hK2 hh_282 hB hB212 1 rfl (by decide) hbs (x := 2) (by decide) (by omega) (fun _ => Or.inl rfl) (by rw [hRc]; omega) (by rw [hRs]; omega) dX11_init_132 (fun H_284 hfr_284 hh_284 hqn_284 => ?_)
  have hh_284 : jSt (dC, dI) B base G0 (va_up G_260 H_282.size (some (212, 2))) EX11_initU s.heap (((((((((((((((((((((0 + 1) + (1)) + 1) + (1)) + 1) + (8)) + 1) + (1)) + 1) + (1)) + 1) + (24)) + 1) + (3)) + 1) + (0)) + 1) + (0)) + 1) + (0)) + 1) (((((((((((((((((((((0 + 2) + (4000)) + 12) + (3000)) + 12) + (12012)) + 2) + (20000)) + 2) + (1024)) + 11) + (38990)) + 5) + (826)) + 3) + (0)) + 3) + (0)) + 3) + (0)) + 2) [(H_132.size, 7, 0, .ref names_170), (H_105.size, 2, 1, .int qc_112), (H_105.size, 2, 0, .ref qa_112), (H_79.size, 2, 1, .int qc_86), (H_79.size, 2, 0, .ref qa_86), (H_23.size, 4, 4, .int qb_30), (H_23.size, 4, 5, .int qp_30), (H_23.size, 4, 6, .int qo_30), (H_23.size, 4, 2, .int qk_30), (H_23.size, 4, 8, .int qg_30), (H_23.size, 4, 9, .int ql_30), (H_23.size, 4, 10, .int qd_30), (H_23.size, 4, 11, .int qv_30), (H_23.size, 4, 7, .int qf_30), (H_23.size, 4, 0, .ref bd_30), (s.heap.size, 2, 1, .int qc_6), (s.heap.size, 2, 0, .ref qa_6)] [(bd_30, 100, m_bd_30, ca 0, gb_30)] [(jFl, jLs dC dI ca G_260 3 none (0, wl.2)), (jFs11, jSef dC dI G_260), (jFdo, jDcc dC dI ca G_260 none ph), (jFcd, jCD dC dI ca G_260 none tq), (jFy, jYb dC dI G_260)] H_284 locs_282 := hh_284
  have hM_284 : jNk [1, 2, 3, 11] G_260 (va_up G_260 H_282.size (some (212, 2))) := jNk.new (by decide)
  have hN_284 : (jNk [0, 5, 10, 14, 15, 16]) G_260 (va_up G_260 H_282.size (some (212, 2))) := jNk.new (by decide)
  have hgn_284 : (va_up G_260 H_282.size (some (212, 2))) H_282.size = some (212, 2) := jUp_self
  have hle_284 : jLe G_260 (va_up G_260 H_282.size (some (212, 2))) := jLe.new hh_282.2.1.fresh
  have hke_284 : jKe G_260 (va_up G_260 H_282.size (some (212, 2))) H_282 H_284 := jKe.new hfr_284
  have hsy_284 : s.heap.size ≤ H_282.size := hh_282.1.1
  generalize (va_up G_260 H_282.size (some (212, 2))) = G_284 at hN_284 hgn_284 hle_284 hke_284 hh_284 hM_284
  clear hh_282
  have hNn_284 : (jNk [0, 5, 10, 14, 15, 16]) G0 G_284 := (hNn_260).tr hN_284
  have hg_285 := hle_284 _ _ hg_262
  have hg_286 := hle_284 _ _ hg_263
  have hg_287 := hle_284 _ _ hg_264
  have hg_288 := hle_284 _ _ hg_265
  have hg_289 := hle_284 _ _ hg_266
  have hkp_290 := hkp_283.tr hke_284
  have hraw_291n := hke_284.nr hraw_282.lt hraw_281x.2
  have hraw_291 := hraw_282.kept (hke_284.1 _ hraw_282.lt)
  have hn3_284 : jNk [3] G0 G_284 := (hn3_260).tr (hM_284.sub (ks1 := [3]) (by decide))
  have hd_292 := jLs.grow (hh_284.iv 0 rfl) hle_284 hM_284 (by decide)
  have hh_293 := hh_284.sub (L1 := [(H_132.size, 7, 0, .ref names_170), (H_105.size, 2, 1, .int qc_112), (H_105.size, 2, 0, .ref qa_112), (H_79.size, 2, 1, .int qc_86), (H_79.size, 2, 0, .ref qa_86), (H_23.size, 4, 4, .int qb_30), (H_23.size, 4, 5, .int qp_30), (H_23.size, 4, 6, .int qo_30), (H_23.size, 4, 2, .int qk_30), (H_23.size, 4, 8, .int qg_30), (H_23.size, 4, 9, .int ql_30), (H_23.size, 4, 10, .int qd_30), (H_23.size, 4, 11, .int qv_30), (H_23.size, 4, 7, .int qf_30), (H_23.size, 4, 0, .ref bd_30), (s.heap.size, 2, 1, .int qc_6), (s.heap.size, 2, 0, .ref qa_6)]) [0, 1, 2, 3, 4, 5, 6, 7, 8, 9, 10, 11, 12, 13, 14, 15, 16] rfl (M1 := [(bd_30, 100, m_bd_30, ca 0, gb_30)]) [0] rfl (I1 := [(jFs11, jSef dC dI G_260), (jFdo, jDcc dC dI ca G_260 none ph), (jFcd, jCD dC dI ca G_260 none tq), (jFy, jYb dC dI G_260)]) [1, 2, 3, 4] rfl
  clear hh_284
  have hh_294 := hh_293.addI (jLs.ie hd_292)
  clear hh_293
  have hd_295 := jSef.grow (hh_294.iv 1 rfl) hle_284 hM_284 (by decide)
  have hh_296 := hh_294.sub (L1 := [(H_132.size, 7, 0, .ref names_170), (H_105.size, 2, 1, .int qc_112), (H_105.size, 2, 0, .ref qa_112), (H_79.size, 2, 1, .int qc_86), (H_79.size, 2, 0, .ref qa_86), (H_23.size, 4, 4, .int qb_30), (H_23.size, 4, 5, .int qp_30), (H_23.size, 4, 6, .int qo_30), (H_23.size, 4, 2, .int qk_30), (H_23.size, 4, 8, .int qg_30), (H_23.size, 4, 9, .int ql_30), (H_23.size, 4, 10, .int qd_30), (H_23.size, 4, 11, .int qv_30), (H_23.size, 4, 7, .int qf_30), (H_23.size, 4, 0, .ref bd_30), (s.heap.size, 2, 1, .int qc_6), (s.heap.size, 2, 0, .ref qa_6)]) [0, 1, 2, 3, 4, 5, 6, 7, 8, 9, 10, 11, 12, 13, 14, 15, 16] rfl (M1 := [(bd_30, 100, m_bd_30, ca 0, gb_30)]) [0] rfl (I1 := [(jFl, jLs dC dI ca G_284 3 none (0, wl.2)), (jFdo, jDcc dC dI ca G_260 none ph), (jFcd, jCD dC dI ca G_260 none tq), (jFy, jYb dC dI G_260)]) [0, 2, 3, 4] rfl
  clear hh_294
  have hh_297 := hh_296.addI (jSef.ie hd_295)
  clear hh_296
  have hd_298 := jDcc.grow (hh_297.iv 2 rfl) hle_284 hM_284 (by decide)
  have hh_299 := hh_297.sub (L1 := [(H_132.size, 7, 0, .ref names_170), (H_105.size, 2, 1, .int qc_112), (H_105.size, 2, 0, .ref qa_112), (H_79.size, 2, 1, .int qc_86), (H_79.size, 2, 0, .ref qa_86), (H_23.size, 4, 4, .int qb_30), (H_23.size, 4, 5, .int qp_30), (H_23.size, 4, 6, .int qo_30), (H_23.size, 4, 2, .int qk_30), (H_23.size, 4, 8, .int qg_30), (H_23.size, 4, 9, .int ql_30), (H_23.size, 4, 10, .int qd_30), (H_23.size, 4, 11, .int qv_30), (H_23.size, 4, 7, .int qf_30), (H_23.size, 4, 0, .ref bd_30), (s.heap.size, 2, 1, .int qc_6), (s.heap.size, 2, 0, .ref qa_6)]) [0, 1, 2, 3, 4, 5, 6, 7, 8, 9, 10, 11, 12, 13, 14, 15, 16] rfl (M1 := [(bd_30, 100, m_bd_30, ca 0, gb_30)]) [0] rfl (I1 := [(jFs11, jSef dC dI G_284), (jFl, jLs dC dI ca G_284 3 none (0, wl.2)), (jFcd, jCD dC dI ca G_260 none tq), (jFy, jYb dC dI G_260)]) [0, 1, 3, 4] rfl
  clear hh_297
  have hh_300 := hh_299.addI (jDcc.ie hd_298)
  clear hh_299
  have hd_301 := jCD.grow (hh_300.iv 3 rfl) hle_284 hM_284 (by decide)
  have hh_302 := hh_300.sub (L1 := [(H_132.size, 7, 0, .ref names_170), (H_105.size, 2, 1, .int qc_112), (H_105.size, 2, 0, .ref qa_112), (H_79.size, 2, 1, .int qc_86), (H_79.size, 2, 0, .ref qa_86), (H_23.size, 4, 4, .int qb_30), (H_23.size, 4, 5, .int qp_30), (H_23.size, 4, 6, .int qo_30), (H_23.size, 4, 2, .int qk_30), (H_23.size, 4, 8, .int qg_30), (H_23.size, 4, 9, .int ql_30), (H_23.size, 4, 10, .int qd_30), (H_23.size, 4, 11, .int qv_30), (H_23.size, 4, 7, .int qf_30), (H_23.size, 4, 0, .ref bd_30), (s.heap.size, 2, 1, .int qc_6), (s.heap.size, 2, 0, .ref qa_6)]) [0, 1, 2, 3, 4, 5, 6, 7, 8, 9, 10, 11, 12, 13, 14, 15, 16] rfl (M1 := [(bd_30, 100, m_bd_30, ca 0, gb_30)]) [0] rfl (I1 := [(jFdo, jDcc dC dI ca G_284 none ph), (jFs11, jSef dC dI G_284), (jFl, jLs dC dI ca G_284 3 none (0, wl.2)), (jFy, jYb dC dI G_260)]) [0, 1, 2, 4] rfl
  clear hh_300
  have hh_303 := hh_302.addI (jCD.ie hd_301)
  clear hh_302
  have hd_304 := jYb.grow (hh_303.iv 4 rfl) hle_284 hM_284 (by decide)
  have hh_305 := hh_303.sub (L1 := [(H_132.size, 7, 0, .ref names_170), (H_105.size, 2, 1, .int qc_112), (H_105.size, 2, 0, .ref qa_112), (H_79.size, 2, 1, .int qc_86), (H_79.size, 2, 0, .ref qa_86), (H_23.size, 4, 4, .int qb_30), (H_23.size, 4, 5, .int qp_30), (H_23.size, 4, 6, .int qo_30), (H_23.size, 4, 2, .int qk_30), (H_23.size, 4, 8, .int qg_30), (H_23.size, 4, 9, .int ql_30), (H_23.size, 4, 10, .int qd_30), (H_23.size, 4, 11, .int qv_30), (H_23.size, 4, 7, .int qf_30), (H_23.size, 4, 0, .ref bd_30), (s.heap.size, 2, 1, .int qc_6), (s.heap.size, 2, 0, .ref qa_6)]) [0, 1, 2, 3, 4, 5, 6, 7, 8, 9, 10, 11, 12, 13, 14, 15, 16] rfl (M1 := [(bd_30, 100, m_bd_30, ca 0, gb_30)]) [0] rfl (I1 := [(jFcd, jCD dC dI ca G_284 none tq), (jFdo, jDcc dC dI ca G_284 none ph), (jFs11, jSef dC dI G_284), (jFl, jLs dC dI ca G_284 3 none (0, wl.2))]) [0, 1, 2, 3] rfl
  clear hh_303
  have hh_306 := hh_305.addI (jYb.ie hd_304)
  clear hh_305
  refine j7_putRF hx hb hown hK hh_306 hB hAp hraw_291 hraw_291n hbr0 (C := RX11) (T := TX11) (N := 19) rfl (i := 10) (by decide) (Nat.le_of_ble_eq_true rfl) hly_13_10 rfl hin2 rfl hlk_73 (ty := (.array (.object "ProofServer$Document"))) (v := .ref H_282.size) (by decide +kernel) rfl rfl dX11_init_135 (fun H_307 locs_307 hraw_307 hr_307 hh_307 => ?_)
  have hraw_307 : va_at (dC, dI) vwCl (r0, .inr (13, [.ref s.heap.size, .ref H_23.size, .ref H_51.size, .ref H_79.size, .ref H_105.size, .ref H_132.size, .ref H_160.size, .ref H_195.size, .ref H_224.size, .ref H_253.size, .ref H_282.size, .int 0, .int 0, .int 0, .int 0, .null, .null, .null, .int 0])) H_307 := hraw_307
  have hkp_308 := hkp_290.put hr_307
  clear hh_306
  refine lv_aload_n hx hb dX11_init_138 rfl (lv_at hl 0 rfl) ?_
  refine lv_iconst (v := 0) hx hb dX11_init_139 (by decide) ?_
  refine j7_putR hx hb hown hK hh_307 hB hAp hraw_307 hraw_291n hbr0 (C := RX11) (T := TX11) (N := 19) rfl (i := 11) (by decide) (Nat.le_of_ble_eq_true rfl) hly_13_11 rfl hlk_77 (ty := .int) (v := .int 0) (by decide +kernel) rfl rfl dX11_init_140 (fun H_309 locs_309 hraw_309 hr_309 hh_309 => ?_)
  have hraw_309 : va_at (dC, dI) vwCl (r0, .inr (13, [.ref s.heap.size, .ref H_23.size, .ref H_51.size, .ref H_79.size, .ref H_105.size, .ref H_132.size, .ref H_160.size, .ref H_195.size, .ref H_224.size, .ref H_253.size, .ref H_282.size, .int 0, .int 0, .int 0, .int 0, .null, .null, .null, .int 0])) H_309 := hraw_309
  have hkp_310 := hkp_308.put hr_309
  clear hh_307
  refine lv_aload_n hx hb dX11_init_143 rfl (lv_at hl 0 rfl) ?_
  clear hsz_284 htt_284
  have hsz_311 := hh_309.2.2.2.2.2.1
  have htt_311 := hh_309.2.2.2.2.2.2.1
  refine j7_newo (k := 3) (C := RX1) (T := TX1) (N := 17) (fs := [.null, .int 0, .null, .int 0, .int 0, .null, .null, .null, .null, .null, .int 0, .null, .null, .int 0, .int 0, .int 0, .int 0]) hx hb htw jWc_wsX10 (fun k => ([(.array .int), .int, (.array .int), .int, .int, (.array .int), (.array .int), (.array .int), (.array .int), (.array (.object "ProofServer$State")), .int, (.array .int), (.object "ProofServer$State"), .int, .int, .int, .int] : List FieldType).getD k .int) (by decide +kernel) hown (htw (.classLink RX11 71 RX1) (jWr_2 _ (List.mem_of_getElem? (i := 17) rfl))) (htw (.instantiable RX1 17) (jWr_2 _ (List.mem_of_getElem? (i := 20) rfl))) (htw (.initialized RX1) (jWr_2 _ (List.mem_of_getElem? (i := 21) rfl))) hK rfl (fun j hj => by rcases (by omega : j = 0 ∨ j = 1 ∨ j = 2 ∨ j = 3 ∨ j = 4 ∨ j = 5 ∨ j = 6 ∨ j = 7 ∨ j = 8 ∨ j = 9 ∨ j = 10 ∨ j = 11 ∨ j = 12 ∨ j = 13 ∨ j = 14 ∨ j = 15 ∨ j = 16) with rfl | rfl | rfl | rfl | rfl | rfl | rfl | rfl | rfl | rfl | rfl | rfl | rfl | rfl | rfl | rfl | rfl <;> rfl) hh_309 hB (by rw [hRc]; omega) (by rw [hRs]; omega) dX11_init_144 (fun H_311 hraw_311 hfr_311 hnr_311 hh_311 => ?_)
  have hlt_312 := hraw_309.lt
  have hke_311 : jKe G_284 G_284 H_309 H_311 := jKe.raw hfr_311
  have hbr_311 : base ≤ H_309.size := Nat.le_trans hbs hh_309.1.1
  have hsy_311 : s.heap.size ≤ H_309.size := hh_309.1.1
  clear hh_309
  have hkp_313 := hkp_310.tr hke_311
  have hraw_314n := hke_311.nr hraw_309.lt hraw_291n
  have hraw_314 := hraw_309.kept (hke_311.1 _ hraw_309.lt)
  have hne_315 : r0 ≠ H_309.size := Nat.ne_of_lt hlt_312
  refine lv_dup hx hb dX11_init_147 rfl ?_
  clear hsz_311 htt_311
  have hsz_316 := hh_311.2.2.2.2.2.1
  have htt_316 := hh_311.2.2.2.2.2.2.1
  refine W.room (fun hrc_316 hrs_316 => ?_)
  refine va_callv (A0 := jA base) (H0 := s.heap) (va_runIN (As := []) (rest := [.ref H_309.size, .ref r0]) ⟨hx, hb, hml, hown, hts⟩ (uX1_initU l dC dI ca base B hB hAp hB3 hB11 hB101 hB171 hB172 hB173 hB174 hB210 G_284 H_311 H_309.size 1 (ph) tq LC LS) ⟨va_cnB 0 hts (jgW (jWr_10 _ (List.mem_of_getElem? (i := 3) rfl))) rfl rfl rfl (hG.2.2.1 RX11 81 yX1_init "ProofServer" (List.mem_of_getElem? (i := 434) (by decide +kernel))) (htw (.initialized RX1) (jWr_2 _ (List.mem_of_getElem? (i := 21) rfl))) (by decide +kernel) ⟨by rw [← hR]; exact Nat.le_of_ble_eq_true rfl, by rw [← hR]; exact Nat.le_of_ble_eq_true rfl⟩, rfl, htw (.instanceMethod yX1_init) (jWr_10 _ (List.mem_of_getElem? (i := 2) rfl))⟩ ⟨fun a U g mk q => by obtain ⟨q0, q1, q2, qK, q10, q11, q12, q13, q14, q15, q16, q17⟩ := q; exact ⟨q0, q1, q2, jG.calling g mk a qK, (va_K.moved (Vm.Alike.refl U.vm) q10), (jK6.moved (Vm.Alike.refl U.vm) q11), q12, q13, q14, q15, q16, q17⟩, fun U hU hW => ⟨rfl, hU, hh_311.2.1, hG.step hW hU hh_311.1, va_K.moved hW.alike hK2, jK6.moved hW.alike hK6, hraw_311, hnr_311, hbr_311, jP.nil, (hh_311.2.2.2.2.2.2.2.2.sub (L1 := [(jFdo, jDcc dC dI ca G_284 none ph), (jFcd, jCD dC dI ca G_284 none tq)]) [2, 1] rfl), (by omega), (by omega), trivial⟩⟩ rfl rfl hl.1 rfl (lv_room (Nat.le_of_ble_eq_true rfl)) dX11_init_148 ⟨by rw [hRc]; omega, by rw [hRs]; omega⟩) hh_311.1 (fun q _ h => h) (fun q h => h) (fun u_316 t_316 H_316 locs_316 ht_316 hvm_316 hr_317 hb_316 hz_316 hk_316 hS_316 => ?_)
  obtain ⟨qk_316, qs_316, ql_316, qtd_316, G_316⟩ := u_316
  rw [ht_316] at hb_316
  simp only at hb_316
  obtain ⟨⟨hb_3161, hb_3162, hb_3163, hb_3164, hb_3165, hb_3166⟩, hN_316, hgc_316, hbX_316, hbE_316⟩ := hb_316
  have hL_316 := hN_316
  have hY_316 := hN_316
  have hM_316 := hN_316
  have hN_316 : (jNk [0, 5, 10, 14, 15, 16]) G_284 G_316 := hN_316.sub (by decide)
  have hh_316 : jSt (dC, dI) B base G0 G_316 EX11_initU s.heap (((((((((((((((((((((((0 + 1) + (1)) + 1) + (1)) + 1) + (8)) + 1) + (1)) + 1) + (1)) + 1) + (24)) + 1) + (3)) + 1) + (0)) + 1) + (0)) + 1) + (0)) + 1) + 1) + (7)) (((((((((((((((((((((((0 + 2) + (4000)) + 12) + (3000)) + 12) + (12012)) + 2) + (20000)) + 2) + (1024)) + 11) + (38990)) + 5) + (826)) + 3) + (0)) + 3) + (0)) + 3) + (0)) + 2) + 17) + (1700)) [(H_309.size, 3, 10, .int qk_316), (H_309.size, 3, 4, .int qs_316), (H_309.size, 3, 3, .int ql_316), (H_132.size, 7, 0, .ref names_170), (H_105.size, 2, 1, .int qc_112), (H_105.size, 2, 0, .ref qa_112), (H_79.size, 2, 1, .int qc_86), (H_79.size, 2, 0, .ref qa_86), (H_23.size, 4, 4, .int qb_30), (H_23.size, 4, 5, .int qp_30), (H_23.size, 4, 6, .int qo_30), (H_23.size, 4, 2, .int qk_30), (H_23.size, 4, 8, .int qg_30), (H_23.size, 4, 9, .int ql_30), (H_23.size, 4, 10, .int qd_30), (H_23.size, 4, 11, .int qv_30), (H_23.size, 4, 7, .int qf_30), (H_23.size, 4, 0, .ref bd_30), (s.heap.size, 2, 1, .int qc_6), (s.heap.size, 2, 0, .ref qa_6)] [(bd_30, 100, m_bd_30, ca 0, gb_30)] [(jFy, jYb dC dI G_284), (jFs11, jSef dC dI G_284), (jFl, jLs dC dI ca G_284 3 none (0, wl.2))] H_316 locs_316 := (hh_311.callG hb_3161 hb_3162 hb_3163 hb_3164 hb_3165 hS_316 rfl (L1 := [(H_132.size, 7, 0, .ref names_170), (H_105.size, 2, 1, .int qc_112), (H_105.size, 2, 0, .ref qa_112), (H_79.size, 2, 1, .int qc_86), (H_79.size, 2, 0, .ref qa_86), (H_23.size, 4, 4, .int qb_30), (H_23.size, 4, 5, .int qp_30), (H_23.size, 4, 6, .int qo_30), (H_23.size, 4, 2, .int qk_30), (H_23.size, 4, 8, .int qg_30), (H_23.size, 4, 9, .int ql_30), (H_23.size, 4, 10, .int qd_30), (H_23.size, 4, 11, .int qv_30), (H_23.size, 4, 7, .int qf_30), (H_23.size, 4, 0, .ref bd_30), (s.heap.size, 2, 1, .int qc_6), (s.heap.size, 2, 0, .ref qa_6)]) [0, 1, 2, 3, 4, 5, 6, 7, 8, 9, 10, 11, 12, 13, 14, 15, 16] rfl rfl (M1 := [(bd_30, 100, m_bd_30, ca 0, gb_30)]) [0] rfl rfl (I1 := [(jFy, jYb dC dI G_284), (jFs11, jSef dC dI G_284), (jFl, jLs dC dI ca G_284 3 none (0, wl.2))]) [0, 3, 4] rfl rfl).more hb_3166
  have hNn_316 : (jNk [0, 5, 10, 14, 15, 16]) G0 G_316 := (hNn_284).tr hN_316
  have hg_318 := hb_3162 _ _ hg_285
  have hg_319 := hb_3162 _ _ hg_286
  have hg_320 := hb_3162 _ _ hg_287
  have hg_321 := hb_3162 _ _ hg_288
  have hg_322 := hb_3162 _ _ hg_289
  have hd_323 := jYb.grow (hh_316.iv 0 rfl) hb_3162 hY_316 (by decide)
  have hh_324 := hh_316.sub (L1 := [(H_309.size, 3, 10, .int qk_316), (H_309.size, 3, 4, .int qs_316), (H_309.size, 3, 3, .int ql_316), (H_132.size, 7, 0, .ref names_170), (H_105.size, 2, 1, .int qc_112), (H_105.size, 2, 0, .ref qa_112), (H_79.size, 2, 1, .int qc_86), (H_79.size, 2, 0, .ref qa_86), (H_23.size, 4, 4, .int qb_30), (H_23.size, 4, 5, .int qp_30), (H_23.size, 4, 6, .int qo_30), (H_23.size, 4, 2, .int qk_30), (H_23.size, 4, 8, .int qg_30), (H_23.size, 4, 9, .int ql_30), (H_23.size, 4, 10, .int qd_30), (H_23.size, 4, 11, .int qv_30), (H_23.size, 4, 7, .int qf_30), (H_23.size, 4, 0, .ref bd_30), (s.heap.size, 2, 1, .int qc_6), (s.heap.size, 2, 0, .ref qa_6)]) [0, 1, 2, 3, 4, 5, 6, 7, 8, 9, 10, 11, 12, 13, 14, 15, 16, 17, 18, 19] rfl (M1 := [(bd_30, 100, m_bd_30, ca 0, gb_30)]) [0] rfl (I1 := [(jFs11, jSef dC dI G_284), (jFl, jLs dC dI ca G_284 3 none (0, wl.2))]) [1, 2] rfl
  clear hh_316
  have hh_325 := hh_324.addI (jYb.ie hd_323)
  clear hh_324
  have hd_326 := jSef.grow (hh_325.iv 1 rfl) hb_3162 hM_316 (by decide)
  have hh_327 := hh_325.sub (L1 := [(H_309.size, 3, 10, .int qk_316), (H_309.size, 3, 4, .int qs_316), (H_309.size, 3, 3, .int ql_316), (H_132.size, 7, 0, .ref names_170), (H_105.size, 2, 1, .int qc_112), (H_105.size, 2, 0, .ref qa_112), (H_79.size, 2, 1, .int qc_86), (H_79.size, 2, 0, .ref qa_86), (H_23.size, 4, 4, .int qb_30), (H_23.size, 4, 5, .int qp_30), (H_23.size, 4, 6, .int qo_30), (H_23.size, 4, 2, .int qk_30), (H_23.size, 4, 8, .int qg_30), (H_23.size, 4, 9, .int ql_30), (H_23.size, 4, 10, .int qd_30), (H_23.size, 4, 11, .int qv_30), (H_23.size, 4, 7, .int qf_30), (H_23.size, 4, 0, .ref bd_30), (s.heap.size, 2, 1, .int qc_6), (s.heap.size, 2, 0, .ref qa_6)]) [0, 1, 2, 3, 4, 5, 6, 7, 8, 9, 10, 11, 12, 13, 14, 15, 16, 17, 18, 19] rfl (M1 := [(bd_30, 100, m_bd_30, ca 0, gb_30)]) [0] rfl (I1 := [(jFy, jYb dC dI G_316), (jFl, jLs dC dI ca G_284 3 none (0, wl.2))]) [0, 2] rfl
  clear hh_325
  have hh_328 := hh_327.addI (jSef.ie hd_326)
  clear hh_327
  have hd_329 := jLs.grow (hh_328.iv 2 rfl) hb_3162 hL_316 (by decide)
  have hh_330 := hh_328.sub (L1 := [(H_309.size, 3, 10, .int qk_316), (H_309.size, 3, 4, .int qs_316), (H_309.size, 3, 3, .int ql_316), (H_132.size, 7, 0, .ref names_170), (H_105.size, 2, 1, .int qc_112), (H_105.size, 2, 0, .ref qa_112), (H_79.size, 2, 1, .int qc_86), (H_79.size, 2, 0, .ref qa_86), (H_23.size, 4, 4, .int qb_30), (H_23.size, 4, 5, .int qp_30), (H_23.size, 4, 6, .int qo_30), (H_23.size, 4, 2, .int qk_30), (H_23.size, 4, 8, .int qg_30), (H_23.size, 4, 9, .int ql_30), (H_23.size, 4, 10, .int qd_30), (H_23.size, 4, 11, .int qv_30), (H_23.size, 4, 7, .int qf_30), (H_23.size, 4, 0, .ref bd_30), (s.heap.size, 2, 1, .int qc_6), (s.heap.size, 2, 0, .ref qa_6)]) [0, 1, 2, 3, 4, 5, 6, 7, 8, 9, 10, 11, 12, 13, 14, 15, 16, 17, 18, 19] rfl (M1 := [(bd_30, 100, m_bd_30, ca 0, gb_30)]) [0] rfl (I1 := [(jFs11, jSef dC dI G_316), (jFy, jYb dC dI G_316)]) [0, 1] rfl
  clear hh_328
  have hh_331 := hh_330.addI (jLs.ie hd_329)
  clear hh_330
  have hh_332 := hh_331.addIs hbE_316
  try simp only at hr_317
  obtain ⟨hr_317_0, hr_317_1, hr_317_2, hr_317_3⟩ := hr_317
  have hkp_333 := hkp_313.in hbX_316 hsy_311
  have hraw_334x := hbX_316.ke hraw_314.lt hne_315 hraw_314n
  clear hne_315
  have hraw_334 := hraw_314.kept hraw_334x.1
  refine j7_putR hx hb hown hK hh_332 hB hAp hraw_334 hraw_334x.2 hbr0 (C := RX11) (T := TX11) (N := 19) rfl (i := 15) (by decide) (Nat.le_of_ble_eq_true rfl) hly_13_15 rfl hlk_82 (ty := (.object "ProofServer$Document")) (v := .ref H_309.size) (by decide +kernel) rfl rfl dX11_init_151 (fun H_335 locs_335 hraw_335 hr_335 hh_335 => ?_)
  have hraw_335 : va_at (dC, dI) vwCl (r0, .inr (13, [.ref s.heap.size, .ref H_23.size, .ref H_51.size, .ref H_79.size, .ref H_105.size, .ref H_132.size, .ref H_160.size, .ref H_195.size, .ref H_224.size, .ref H_253.size, .ref H_282.size, .int 0, .int 0, .int 0, .int 0, .ref H_309.size, .null, .null, .int 0])) H_335 := hraw_335
  have hkp_336 := hkp_333.put hr_335
  clear hh_332
  refine lv_aload_n hx hb dX11_init_154 rfl (lv_at hl 0 rfl) ?_
  have hne : H_105.size ≠ H_335.size := Nat.ne_of_lt (hh_335.ab ((((((((hb_1392).tr hb_1712).tr hb_2022).tr hb_2312).tr hb_2602).tr hle_284).tr hb_3162) _ _ hgc_112)).2
  clear hsz_316 htt_316 hrc_316 hrs_316
  (try clear hb_3164); (try clear hb_3165); (try clear hz_316)
  have hsz_337 := hh_335.2.2.2.2.2.1
  have htt_337 := hh_335.2.2.2.2.2.2.1
  refine j7_newo (k := 2) (C := RX0) (T := TX0) (N := 2) (fs := [.null, .int 0]) hx hb htw jWc_wsX00 (fun k => ([(.array .byte), .int] : List FieldType).getD k .int) (by decide +kernel) hown (htw (.classLink RX11 7 RX0) (jWr_1 _ (List.mem_of_getElem? (i := 12) rfl))) (htw (.instantiable RX0 2) (jWr_1 _ (List.mem_of_getElem? (i := 13) rfl))) (htw (.initialized RX0) (jWr_1 _ (List.mem_of_getElem? (i := 14) rfl))) hK rfl (fun j hj => by rcases (by omega : j = 0 ∨ j = 1) with rfl | rfl <;> rfl) hh_335 hB (by rw [hRc]; omega) (by rw [hRs]; omega) dX11_init_155 (fun H_337 hraw_337 hfr_337 hnr_337 hh_337 => ?_)
  have hlt_338 := hraw_335.lt
  have hke_337 : jKe G_316 G_316 H_335 H_337 := jKe.raw hfr_337
  have hbr_337 : base ≤ H_335.size := Nat.le_trans hbs hh_335.1.1
  have hsy_337 : s.heap.size ≤ H_335.size := hh_335.1.1
  clear hh_335
  have hkp_339 := hkp_336.tr hke_337
  have hraw_340n := hke_337.nr hraw_335.lt hraw_334x.2
  have hraw_340 := hraw_335.kept (hke_337.1 _ hraw_335.lt)
  have hne_341 : r0 ≠ H_335.size := Nat.ne_of_lt hlt_338
  refine lv_dup hx hb dX11_init_158 rfl ?_
  refine lv_sipush (v := 256) hx hb dX11_init_159 (by decide) ?_
  clear hsz_337 htt_337
  have hsz_342 := hh_337.2.2.2.2.2.1
  have htt_342 := hh_337.2.2.2.2.2.2.1
  refine W.room (fun hrc_342 hrs_342 => ?_)
  refine va_callv (A0 := jA base) (H0 := s.heap) (va_runI (As := [.int 256]) (rest := [.ref H_335.size, .ref r0]) ⟨hx, hb, hml, hown, hts⟩ (uX0_initY l dC dI ca base B hB hAp hB2 hB196 G_316 H_337 H_335.size 256 0 LC LS) (cwI 1 hts (jgW (jWr_3 _ (List.mem_of_getElem? (i := 3) rfl))) rfl rfl rfl (htw (.initialized RX0) (jWr_1 _ (List.mem_of_getElem? (i := 14) rfl))) (htw (.methodLink RX11 11 yX0_init) (jWr_3 _ (List.mem_of_getElem? (i := 1) rfl))) (htw (.instanceMethod yX0_init) (jWr_3 _ (List.mem_of_getElem? (i := 2) rfl))) rfl (by decide +kernel) ⟨by rw [← hR]; exact Nat.le_of_ble_eq_true rfl, by rw [← hR]; exact Nat.le_of_ble_eq_true rfl⟩) ⟨fun a U g mk q => by obtain ⟨q0, q1, q2, qK, q10, q11, q12, q13, q14, q15⟩ := q; exact ⟨q0, q1, q2, jG.calling g mk a qK, q10, q11, q12, q13, q14, q15⟩, fun U hU hW => ⟨rfl, hU, hh_337.2.1, hG.step hW hU hh_337.1, hraw_337, hnr_337, hbr_337, jP.nil, (hh_337.2.2.2.2.2.2.2.2.sub (L1 := [(jFy, jYb dC dI G_316)]) [4] rfl), (by omega), (by omega), ⟨(by first | omega | rfl | assumption | exact fun _ => ⟨4, by decide, by decide⟩), (by first | omega | rfl | assumption | exact fun _ => ⟨4, by decide, by decide⟩), (by first | omega | rfl | assumption | exact fun _ => ⟨4, by decide, by decide⟩), (by first | assumption | exact fun _ => ⟨4, by decide, by decide⟩ | omega), (by first | omega | rfl | assumption | exact fun _ => ⟨4, by decide, by decide⟩)⟩⟩⟩ rfl rfl hl.1 rfl (lv_room (Nat.le_of_ble_eq_true rfl)) dX11_init_162 ⟨by rw [hRc]; omega, by rw [hRs]; omega⟩) hh_337.1 (fun q _ h => h) (fun q h => h) (fun u_342 t_342 H_342 locs_342 ht_342 hvm_342 hr_343 hb_342 hz_342 hk_342 hS_342 => ?_)
  obtain ⟨qc_342, qa_342, m_qa_342, G_342⟩ := u_342
  rw [ht_342] at hb_342
  simp only at hb_342
  obtain ⟨⟨hb_3421, hb_3422, hb_3423, hb_3424, hb_3425, hb_3426⟩, hgq_342_0, hN_342, hgc_342, hbX_342, hbE_342⟩ := hb_342
  have hE9_342 := hN_342
  try have hn3_342 : jNk [3] G0 G_342 := (hn3_284).tr (hE9_342.sub (ks1 := [3]) (by decide))
  have hL_342 := hN_342
  have hM_342 := hN_342
  have hN_342 : (jNk [0, 5, 10, 14, 15, 16]) G_316 G_342 := hN_342.sub (by decide)
  have hh_342 : jSt (dC, dI) B base G0 G_342 EX11_initU s.heap (((((((((((((((((((((((((0 + 1) + (1)) + 1) + (1)) + 1) + (8)) + 1) + (1)) + 1) + (1)) + 1) + (24)) + 1) + (3)) + 1) + (0)) + 1) + (0)) + 1) + (0)) + 1) + 1) + (7)) + 1) + (1)) (((((((((((((((((((((((((0 + 2) + (4000)) + 12) + (3000)) + 12) + (12012)) + 2) + (20000)) + 2) + (1024)) + 11) + (38990)) + 5) + (826)) + 3) + (0)) + 3) + (0)) + 3) + (0)) + 2) + 17) + (1700)) + 2) + (256)) [(H_335.size, 2, 1, .int qc_342), (H_335.size, 2, 0, .ref qa_342), (H_309.size, 3, 10, .int qk_316), (H_309.size, 3, 4, .int qs_316), (H_309.size, 3, 3, .int ql_316), (H_132.size, 7, 0, .ref names_170), (H_105.size, 2, 1, .int qc_112), (H_105.size, 2, 0, .ref qa_112), (H_79.size, 2, 1, .int qc_86), (H_79.size, 2, 0, .ref qa_86), (H_23.size, 4, 4, .int qb_30), (H_23.size, 4, 5, .int qp_30), (H_23.size, 4, 6, .int qo_30), (H_23.size, 4, 2, .int qk_30), (H_23.size, 4, 8, .int qg_30), (H_23.size, 4, 9, .int ql_30), (H_23.size, 4, 10, .int qd_30), (H_23.size, 4, 11, .int qv_30), (H_23.size, 4, 7, .int qf_30), (H_23.size, 4, 0, .ref bd_30), (s.heap.size, 2, 1, .int qc_6), (s.heap.size, 2, 0, .ref qa_6)] [(bd_30, 100, m_bd_30, ca 0, gb_30)] [(jFdo, jDcc dC dI ca G_316 none (ph + 1500)), (jFcd, jCD dC dI ca G_316 none qtd_316), (jFl, jLs dC dI ca G_316 3 none (0, wl.2)), (jFs11, jSef dC dI G_316)] H_342 locs_342 := (hh_337.callG hb_3421 hb_3422 hb_3423 hb_3424 hb_3425 hS_342 rfl (L1 := [(H_309.size, 3, 10, .int qk_316), (H_309.size, 3, 4, .int qs_316), (H_309.size, 3, 3, .int ql_316), (H_132.size, 7, 0, .ref names_170), (H_105.size, 2, 1, .int qc_112), (H_105.size, 2, 0, .ref qa_112), (H_79.size, 2, 1, .int qc_86), (H_79.size, 2, 0, .ref qa_86), (H_23.size, 4, 4, .int qb_30), (H_23.size, 4, 5, .int qp_30), (H_23.size, 4, 6, .int qo_30), (H_23.size, 4, 2, .int qk_30), (H_23.size, 4, 8, .int qg_30), (H_23.size, 4, 9, .int ql_30), (H_23.size, 4, 10, .int qd_30), (H_23.size, 4, 11, .int qv_30), (H_23.size, 4, 7, .int qf_30), (H_23.size, 4, 0, .ref bd_30), (s.heap.size, 2, 1, .int qc_6), (s.heap.size, 2, 0, .ref qa_6)]) [0, 1, 2, 3, 4, 5, 6, 7, 8, 9, 10, 11, 12, 13, 14, 15, 16, 17, 18, 19] rfl rfl (M1 := [(bd_30, 100, m_bd_30, ca 0, gb_30)]) [0] rfl rfl (I1 := [(jFdo, jDcc dC dI ca G_316 none (ph + 1500)), (jFcd, jCD dC dI ca G_316 none qtd_316), (jFl, jLs dC dI ca G_316 3 none (0, wl.2)), (jFs11, jSef dC dI G_316)]) [0, 1, 2, 3] rfl rfl).more hb_3426
  have hNn_342 : (jNk [0, 5, 10, 14, 15, 16]) G0 G_342 := (hNn_316).tr hN_342
  have hg_344 := hb_3422 _ _ hg_318
  have hg_345 := hb_3422 _ _ hg_319
  have hg_346 := hb_3422 _ _ hg_320
  have hg_347 := hb_3422 _ _ hg_321
  have hg_348 := hb_3422 _ _ hg_322
  have hd_349 := jDcc.grow (hh_342.iv 0 rfl) hb_3422 hE9_342 (by decide)
  have hh_350 := hh_342.sub (L1 := [(H_335.size, 2, 1, .int qc_342), (H_335.size, 2, 0, .ref qa_342), (H_309.size, 3, 10, .int qk_316), (H_309.size, 3, 4, .int qs_316), (H_309.size, 3, 3, .int ql_316), (H_132.size, 7, 0, .ref names_170), (H_105.size, 2, 1, .int qc_112), (H_105.size, 2, 0, .ref qa_112), (H_79.size, 2, 1, .int qc_86), (H_79.size, 2, 0, .ref qa_86), (H_23.size, 4, 4, .int qb_30), (H_23.size, 4, 5, .int qp_30), (H_23.size, 4, 6, .int qo_30), (H_23.size, 4, 2, .int qk_30), (H_23.size, 4, 8, .int qg_30), (H_23.size, 4, 9, .int ql_30), (H_23.size, 4, 10, .int qd_30), (H_23.size, 4, 11, .int qv_30), (H_23.size, 4, 7, .int qf_30), (H_23.size, 4, 0, .ref bd_30), (s.heap.size, 2, 1, .int qc_6), (s.heap.size, 2, 0, .ref qa_6)]) [0, 1, 2, 3, 4, 5, 6, 7, 8, 9, 10, 11, 12, 13, 14, 15, 16, 17, 18, 19, 20, 21] rfl (M1 := [(bd_30, 100, m_bd_30, ca 0, gb_30)]) [0] rfl (I1 := [(jFcd, jCD dC dI ca G_316 none qtd_316), (jFl, jLs dC dI ca G_316 3 none (0, wl.2)), (jFs11, jSef dC dI G_316)]) [1, 2, 3] rfl
  clear hh_342
  have hh_351 := hh_350.addI (jDcc.ie hd_349)
  clear hh_350
  have hd_352 := jCD.grow (hh_351.iv 1 rfl) hb_3422 hE9_342 (by decide)
  have hh_353 := hh_351.sub (L1 := [(H_335.size, 2, 1, .int qc_342), (H_335.size, 2, 0, .ref qa_342), (H_309.size, 3, 10, .int qk_316), (H_309.size, 3, 4, .int qs_316), (H_309.size, 3, 3, .int ql_316), (H_132.size, 7, 0, .ref names_170), (H_105.size, 2, 1, .int qc_112), (H_105.size, 2, 0, .ref qa_112), (H_79.size, 2, 1, .int qc_86), (H_79.size, 2, 0, .ref qa_86), (H_23.size, 4, 4, .int qb_30), (H_23.size, 4, 5, .int qp_30), (H_23.size, 4, 6, .int qo_30), (H_23.size, 4, 2, .int qk_30), (H_23.size, 4, 8, .int qg_30), (H_23.size, 4, 9, .int ql_30), (H_23.size, 4, 10, .int qd_30), (H_23.size, 4, 11, .int qv_30), (H_23.size, 4, 7, .int qf_30), (H_23.size, 4, 0, .ref bd_30), (s.heap.size, 2, 1, .int qc_6), (s.heap.size, 2, 0, .ref qa_6)]) [0, 1, 2, 3, 4, 5, 6, 7, 8, 9, 10, 11, 12, 13, 14, 15, 16, 17, 18, 19, 20, 21] rfl (M1 := [(bd_30, 100, m_bd_30, ca 0, gb_30)]) [0] rfl (I1 := [(jFdo, jDcc dC dI ca G_342 none (ph + 1500)), (jFl, jLs dC dI ca G_316 3 none (0, wl.2)), (jFs11, jSef dC dI G_316)]) [0, 2, 3] rfl
  clear hh_351
  have hh_354 := hh_353.addI (jCD.ie hd_352)
  clear hh_353
  have hd_355 := jLs.grow (hh_354.iv 2 rfl) hb_3422 hL_342 (by decide)
  have hh_356 := hh_354.sub (L1 := [(H_335.size, 2, 1, .int qc_342), (H_335.size, 2, 0, .ref qa_342), (H_309.size, 3, 10, .int qk_316), (H_309.size, 3, 4, .int qs_316), (H_309.size, 3, 3, .int ql_316), (H_132.size, 7, 0, .ref names_170), (H_105.size, 2, 1, .int qc_112), (H_105.size, 2, 0, .ref qa_112), (H_79.size, 2, 1, .int qc_86), (H_79.size, 2, 0, .ref qa_86), (H_23.size, 4, 4, .int qb_30), (H_23.size, 4, 5, .int qp_30), (H_23.size, 4, 6, .int qo_30), (H_23.size, 4, 2, .int qk_30), (H_23.size, 4, 8, .int qg_30), (H_23.size, 4, 9, .int ql_30), (H_23.size, 4, 10, .int qd_30), (H_23.size, 4, 11, .int qv_30), (H_23.size, 4, 7, .int qf_30), (H_23.size, 4, 0, .ref bd_30), (s.heap.size, 2, 1, .int qc_6), (s.heap.size, 2, 0, .ref qa_6)]) [0, 1, 2, 3, 4, 5, 6, 7, 8, 9, 10, 11, 12, 13, 14, 15, 16, 17, 18, 19, 20, 21] rfl (M1 := [(bd_30, 100, m_bd_30, ca 0, gb_30)]) [0] rfl (I1 := [(jFcd, jCD dC dI ca G_342 none qtd_316), (jFdo, jDcc dC dI ca G_342 none (ph + 1500)), (jFs11, jSef dC dI G_316)]) [0, 1, 3] rfl
  clear hh_354
  have hh_357 := hh_356.addI (jLs.ie hd_355)
  clear hh_356
  have hd_358 := jSef.grow (hh_357.iv 3 rfl) hb_3422 hM_342 (by decide)
  have hh_359 := hh_357.sub (L1 := [(H_335.size, 2, 1, .int qc_342), (H_335.size, 2, 0, .ref qa_342), (H_309.size, 3, 10, .int qk_316), (H_309.size, 3, 4, .int qs_316), (H_309.size, 3, 3, .int ql_316), (H_132.size, 7, 0, .ref names_170), (H_105.size, 2, 1, .int qc_112), (H_105.size, 2, 0, .ref qa_112), (H_79.size, 2, 1, .int qc_86), (H_79.size, 2, 0, .ref qa_86), (H_23.size, 4, 4, .int qb_30), (H_23.size, 4, 5, .int qp_30), (H_23.size, 4, 6, .int qo_30), (H_23.size, 4, 2, .int qk_30), (H_23.size, 4, 8, .int qg_30), (H_23.size, 4, 9, .int ql_30), (H_23.size, 4, 10, .int qd_30), (H_23.size, 4, 11, .int qv_30), (H_23.size, 4, 7, .int qf_30), (H_23.size, 4, 0, .ref bd_30), (s.heap.size, 2, 1, .int qc_6), (s.heap.size, 2, 0, .ref qa_6)]) [0, 1, 2, 3, 4, 5, 6, 7, 8, 9, 10, 11, 12, 13, 14, 15, 16, 17, 18, 19, 20, 21] rfl (M1 := [(bd_30, 100, m_bd_30, ca 0, gb_30)]) [0] rfl (I1 := [(jFl, jLs dC dI ca G_342 3 none (0, wl.2)), (jFcd, jCD dC dI ca G_342 none qtd_316), (jFdo, jDcc dC dI ca G_342 none (ph + 1500))]) [0, 1, 2] rfl
  clear hh_357
  have hh_360 := hh_359.addI (jSef.ie hd_358)
  clear hh_359
  have hh_361 := hh_360.addIs hbE_342
  try simp only at hr_343
  obtain ⟨hr_343_0, hr_343_1⟩ := hr_343
  have hkp_362 := hkp_339.in hbX_342 hsy_337
  have hraw_363x := hbX_342.ke hraw_340.lt hne_341 hraw_340n
  clear hne_341
  have hraw_363 := hraw_340.kept hraw_363x.1
  refine j7_putRF hx hb hown hK hh_361 hB hAp hraw_363 hraw_363x.2 hbr0 (C := RX11) (T := TX11) (N := 19) rfl (i := 17) (by decide) (Nat.le_of_ble_eq_true rfl) hly_13_17 rfl hin2 rfl hlk_86 (ty := (.object "ProofServer$Bytes")) (v := .ref H_335.size) (by decide +kernel) rfl rfl dX11_init_165 (fun H_364 locs_364 hraw_364 hr_364 hh_364 => ?_)
  have hraw_364 : va_at (dC, dI) vwCl (r0, .inr (13, [.ref s.heap.size, .ref H_23.size, .ref H_51.size, .ref H_79.size, .ref H_105.size, .ref H_132.size, .ref H_160.size, .ref H_195.size, .ref H_224.size, .ref H_253.size, .ref H_282.size, .int 0, .int 0, .int 0, .int 0, .ref H_309.size, .null, .ref H_335.size, .int 0])) H_364 := hraw_364
  have hkp_365 := hkp_362.put hr_364
  clear hh_361
  have hiv9 := hr_317_3.iv hp0
  refine lv_aload_n hx hb dX11_init_168 rfl (lv_at hl 0 rfl) ?_
  refine lv_bipush (v := (-2)) hx hb dX11_init_169 (by decide) ?_
  refine j7_putR hx hb hown hK hh_364 hB hAp hraw_364 hraw_363x.2 hbr0 (C := RX11) (T := TX11) (N := 19) rfl (i := 18) (by decide) (Nat.le_of_ble_eq_true rfl) hly_13_18 rfl hlk_89 (ty := .int) (v := .int (-2)) (by decide +kernel) rfl rfl dX11_init_171 (fun H_366 locs_366 hraw_366 hr_366 hh_366 => ?_)
  have hraw_366 : va_at (dC, dI) vwCl (r0, .inr (13, [.ref s.heap.size, .ref H_23.size, .ref H_51.size, .ref H_79.size, .ref H_105.size, .ref H_132.size, .ref H_160.size, .ref H_195.size, .ref H_224.size, .ref H_253.size, .ref H_282.size, .int 0, .int 0, .int 0, .int 0, .ref H_309.size, .null, .ref H_335.size, .int (-2)])) H_366 := hraw_366
  have hkp_367 := hkp_365.put hr_366
  clear hh_364
  clear hsz_342 htt_342 hrc_342 hrs_342
  (try clear hb_3424); (try clear hb_3425); (try clear hz_342)
  have hsz_368 := hh_366.2.2.2.2.2.1
  have htt_368 := hh_366.2.2.2.2.2.2.1
  refine W.room (fun hrc_368 hrs_368 => ?_)
  refine W.widen (k := LC - s.heap.size) (n := LS - jTot s.heap) (by omega) (by omega) ?_
  rw [hQ]
  have hle_369 : jLe G_342 (va_up G_342 r0 (some (13, 0))) := jLe.typ hraw_363x.2
  have hg_370 := hle_369 _ _ hgq_342_0
  have hg_371 := hle_369 _ _ hg_344
  have hg_372 := hle_369 _ _ hg_345
  have hg_373 := hle_369 _ _ hg_346
  have hg_374 := hle_369 _ _ hg_347
  have hg_375 := hle_369 _ _ hg_348
  have hg_376 := ((((((((((((hb_302).tr hb_582).tr hb_862).tr hb_1122).tr hb_1392).tr hb_1712).tr hb_2022).tr hb_2312).tr hb_2602).tr hle_284).tr hb_3162).tr hb_3422).tr hle_369 _ _ hgc_6
  have hg_377 := (((((((((((hb_582).tr hb_862).tr hb_1122).tr hb_1392).tr hb_1712).tr hb_2022).tr hb_2312).tr hb_2602).tr hle_284).tr hb_3162).tr hb_3422).tr hle_369 _ _ hgc_30
  have hg_378 := ((((((((((hb_862).tr hb_1122).tr hb_1392).tr hb_1712).tr hb_2022).tr hb_2312).tr hb_2602).tr hle_284).tr hb_3162).tr hb_3422).tr hle_369 _ _ hgc_58
  have hg_379 := (((((((((hb_1122).tr hb_1392).tr hb_1712).tr hb_2022).tr hb_2312).tr hb_2602).tr hle_284).tr hb_3162).tr hb_3422).tr hle_369 _ _ hgc_86
  have hg_380 := ((((((((hb_1392).tr hb_1712).tr hb_2022).tr hb_2312).tr hb_2602).tr hle_284).tr hb_3162).tr hb_3422).tr hle_369 _ _ hgc_112
  have hg_381 := (((((((hb_1712).tr hb_2022).tr hb_2312).tr hb_2602).tr hle_284).tr hb_3162).tr hb_3422).tr hle_369 _ _ hgc_139
  have hg_382 := ((((((hb_2022).tr hb_2312).tr hb_2602).tr hle_284).tr hb_3162).tr hb_3422).tr hle_369 _ _ hgc_171
  have hg_383 := (((((hb_2312).tr hb_2602).tr hle_284).tr hb_3162).tr hb_3422).tr hle_369 _ _ hgc_202
  have hg_384 := ((((hb_2602).tr hle_284).tr hb_3162).tr hb_3422).tr hle_369 _ _ hgc_231
  have hg_385 := (((hle_284).tr hb_3162).tr hb_3422).tr hle_369 _ _ hgc_260
  have hg_386 := ((hb_3162).tr hb_3422).tr hle_369 _ _ hgn_284
  have hg_387 := (hb_3422).tr hle_369 _ _ hgc_316
  have hg_388 := (jLe.rf).tr hle_369 _ _ hgc_342
  have hfa_369 : jRf (va_up G_342 r0 (some (13, 0))) 2 4000 (.ref s.heap.size) ∧ jRf (va_up G_342 r0 (some (13, 0))) 4 0 (.ref H_23.size) ∧ jRf (va_up G_342 r0 (some (13, 0))) 6 0 (.ref H_51.size) ∧ jRf (va_up G_342 r0 (some (13, 0))) 2 20000 (.ref H_79.size) ∧ jRf (va_up G_342 r0 (some (13, 0))) 2 0 (.ref H_105.size) ∧ jRf (va_up G_342 r0 (some (13, 0))) 7 0 (.ref H_132.size) ∧ jRf (va_up G_342 r0 (some (13, 0))) 9 0 (.ref H_160.size) ∧ jRf (va_up G_342 r0 (some (13, 0))) 1 1 (.ref H_195.size) ∧ jRf (va_up G_342 r0 (some (13, 0))) 1 2 (.ref H_224.size) ∧ jRf (va_up G_342 r0 (some (13, 0))) 1 3 (.ref H_253.size) ∧ jRf (va_up G_342 r0 (some (13, 0))) 212 2 (.ref H_282.size) ∧ jI 0 2 (.int 0) ∧ jIa (.int 0) ∧ jIa (.int 0) ∧ jIa (.int 0) ∧ jRf (va_up G_342 r0 (some (13, 0))) 3 1 (.ref H_309.size) ∧ jRn (va_up G_342 r0 (some (13, 0))) 3 1 (.null) ∧ jRf (va_up G_342 r0 (some (13, 0))) 2 0 (.ref H_335.size) ∧ jIa (.int (-2)) ∧ True := ⟨⟨_, rfl, hg_376⟩, ⟨_, rfl, hg_377⟩, ⟨_, rfl, hg_378⟩, ⟨_, rfl, hg_379⟩, ⟨_, rfl, hg_380⟩, ⟨_, rfl, hg_381⟩, ⟨_, rfl, hg_382⟩, ⟨_, rfl, hg_383⟩, ⟨_, rfl, hg_384⟩, ⟨_, rfl, hg_385⟩, ⟨_, rfl, hg_386⟩, ⟨_, rfl, by omega, by omega⟩, ⟨_, rfl⟩, ⟨_, rfl⟩, ⟨_, rfl⟩, ⟨_, rfl, hg_387⟩, Or.inl rfl, ⟨_, rfl, hg_388⟩, ⟨_, rfl⟩, trivial⟩
  have hh_369 := hh_366.typ (k := 13) (n := 0) hB hraw_363x.2 hbr0 hraw_366.lt (jOb.of (C := RX11) (T := TX11) (N := 19) (F := F13) hB13 rfl hraw_366 (show jFx (F13 0 (va_up G_342 r0 (some (13, 0)))) [.ref s.heap.size, .ref H_23.size, .ref H_51.size, .ref H_79.size, .ref H_105.size, .ref H_132.size, .ref H_160.size, .ref H_195.size, .ref H_224.size, .ref H_253.size, .ref H_282.size, .int 0, .int 0, .int 0, .int 0, .ref H_309.size, .null, .ref H_335.size, .int (-2)] from hfa_369))
  have hgn_369 : (va_up G_342 r0 (some (13, 0))) r0 = some (13, 0) := jUp_self
  have hN_369 : (jNk [0, 5, 10, 14, 15, 16]) G_342 (va_up G_342 r0 (some (13, 0))) := jNk.new (by decide)
  have hNn_369 : (jNk [0, 5, 10, 14, 15, 16]) G0 (va_up G_342 r0 (some (13, 0))) := (hNn_342).tr hN_369
  have hkp_389 := hkp_367.typ (t := some (13, 0))
  have hg_390 := (((((((((((((hb_302).tr hb_582).tr hb_862).tr hb_1122).tr hb_1392).tr hb_1712).tr hb_2022).tr hb_2312).tr hb_2602).tr hle_284).tr hb_3162).tr hb_3422).tr hle_369) _ _ hgc_6
  have hg_391 := ((((((((((((hb_582).tr hb_862).tr hb_1122).tr hb_1392).tr hb_1712).tr hb_2022).tr hb_2312).tr hb_2602).tr hle_284).tr hb_3162).tr hb_3422).tr hle_369) _ _ hgc_30
  have hg_392 := (((((((((hb_1392).tr hb_1712).tr hb_2022).tr hb_2312).tr hb_2602).tr hle_284).tr hb_3162).tr hb_3422).tr hle_369) _ _ hgc_112
  have hg_393 := (hle_369) _ _ hgc_342
  have hh_394 := hh_369.more (P1 := [(r0, 13, 11, .int 0), (r0, 13, 0, .ref s.heap.size), (r0, 13, 1, .ref H_23.size), (r0, 13, 4, .ref H_105.size), (r0, 13, 17, .ref H_335.size)]) (jP.cons hgn_369 (jf.raw (C := RX11) (T := TX11) (N := 19) rfl hraw_366 (i := 11) (by decide)) (jP.cons hgn_369 (jf.raw (C := RX11) (T := TX11) (N := 19) rfl hraw_366 (i := 0) (by decide)) (jP.cons hgn_369 (jf.raw (C := RX11) (T := TX11) (N := 19) rfl hraw_366 (i := 1) (by decide)) (jP.cons hgn_369 (jf.raw (C := RX11) (T := TX11) (N := 19) rfl hraw_366 (i := 4) (by decide)) (jP.cons hgn_369 (jf.raw (C := RX11) (T := TX11) (N := 19) rfl hraw_366 (i := 17) (by decide)) jP.nil)))))
  have hM_369 : jNk [1, 2, 3, 11] G_342 (va_up G_342 r0 (some (13, 0))) := jNk.new (by decide)
  have hd_395 := jYb.grow (hh_394.iv 0 rfl) hle_369 hM_369 (by decide)
  have hh_396 := hh_394.sub (L1 := [(r0, 13, 11, .int 0), (r0, 13, 0, .ref s.heap.size), (r0, 13, 1, .ref H_23.size), (r0, 13, 4, .ref H_105.size), (r0, 13, 17, .ref H_335.size), (H_335.size, 2, 1, .int qc_342), (H_335.size, 2, 0, .ref qa_342), (H_309.size, 3, 10, .int qk_316), (H_309.size, 3, 4, .int qs_316), (H_309.size, 3, 3, .int ql_316), (H_132.size, 7, 0, .ref names_170), (H_105.size, 2, 1, .int qc_112), (H_105.size, 2, 0, .ref qa_112), (H_79.size, 2, 1, .int qc_86), (H_79.size, 2, 0, .ref qa_86), (H_23.size, 4, 4, .int qb_30), (H_23.size, 4, 5, .int qp_30), (H_23.size, 4, 6, .int qo_30), (H_23.size, 4, 2, .int qk_30), (H_23.size, 4, 8, .int qg_30), (H_23.size, 4, 9, .int ql_30), (H_23.size, 4, 10, .int qd_30), (H_23.size, 4, 11, .int qv_30), (H_23.size, 4, 7, .int qf_30), (H_23.size, 4, 0, .ref bd_30), (s.heap.size, 2, 1, .int qc_6), (s.heap.size, 2, 0, .ref qa_6)]) [0, 1, 2, 3, 4, 5, 6, 7, 8, 9, 10, 11, 12, 13, 14, 15, 16, 17, 18, 19, 20, 21, 22, 23, 24, 25, 26] rfl (M1 := [(bd_30, 100, m_bd_30, ca 0, gb_30)]) [0] rfl (I1 := [(jFs11, jSef dC dI G_342), (jFl, jLs dC dI ca G_342 3 none (0, wl.2)), (jFcd, jCD dC dI ca G_342 none qtd_316), (jFdo, jDcc dC dI ca G_342 none (ph + 1500))]) [1, 2, 3, 4] rfl
  clear hh_394
  have hh_397 := hh_396.addI (jYb.ie hd_395)
  clear hh_396
  have hd_398 := jSef.grow (hh_397.iv 1 rfl) hle_369 hM_369 (by decide)
  have hh_399 := hh_397.sub (L1 := [(r0, 13, 11, .int 0), (r0, 13, 0, .ref s.heap.size), (r0, 13, 1, .ref H_23.size), (r0, 13, 4, .ref H_105.size), (r0, 13, 17, .ref H_335.size), (H_335.size, 2, 1, .int qc_342), (H_335.size, 2, 0, .ref qa_342), (H_309.size, 3, 10, .int qk_316), (H_309.size, 3, 4, .int qs_316), (H_309.size, 3, 3, .int ql_316), (H_132.size, 7, 0, .ref names_170), (H_105.size, 2, 1, .int qc_112), (H_105.size, 2, 0, .ref qa_112), (H_79.size, 2, 1, .int qc_86), (H_79.size, 2, 0, .ref qa_86), (H_23.size, 4, 4, .int qb_30), (H_23.size, 4, 5, .int qp_30), (H_23.size, 4, 6, .int qo_30), (H_23.size, 4, 2, .int qk_30), (H_23.size, 4, 8, .int qg_30), (H_23.size, 4, 9, .int ql_30), (H_23.size, 4, 10, .int qd_30), (H_23.size, 4, 11, .int qv_30), (H_23.size, 4, 7, .int qf_30), (H_23.size, 4, 0, .ref bd_30), (s.heap.size, 2, 1, .int qc_6), (s.heap.size, 2, 0, .ref qa_6)]) [0, 1, 2, 3, 4, 5, 6, 7, 8, 9, 10, 11, 12, 13, 14, 15, 16, 17, 18, 19, 20, 21, 22, 23, 24, 25, 26] rfl (M1 := [(bd_30, 100, m_bd_30, ca 0, gb_30)]) [0] rfl (I1 := [(jFy, jYb dC dI (va_up G_342 r0 (some (13, 0)))), (jFl, jLs dC dI ca G_342 3 none (0, wl.2)), (jFcd, jCD dC dI ca G_342 none qtd_316), (jFdo, jDcc dC dI ca G_342 none (ph + 1500))]) [0, 2, 3, 4] rfl
  clear hh_397
  have hh_400 := hh_399.addI (jSef.ie hd_398)
  clear hh_399
  have hd_401 := jLs.grow (hh_400.iv 2 rfl) hle_369 hM_369 (by decide)
  have hh_402 := hh_400.sub (L1 := [(r0, 13, 11, .int 0), (r0, 13, 0, .ref s.heap.size), (r0, 13, 1, .ref H_23.size), (r0, 13, 4, .ref H_105.size), (r0, 13, 17, .ref H_335.size), (H_335.size, 2, 1, .int qc_342), (H_335.size, 2, 0, .ref qa_342), (H_309.size, 3, 10, .int qk_316), (H_309.size, 3, 4, .int qs_316), (H_309.size, 3, 3, .int ql_316), (H_132.size, 7, 0, .ref names_170), (H_105.size, 2, 1, .int qc_112), (H_105.size, 2, 0, .ref qa_112), (H_79.size, 2, 1, .int qc_86), (H_79.size, 2, 0, .ref qa_86), (H_23.size, 4, 4, .int qb_30), (H_23.size, 4, 5, .int qp_30), (H_23.size, 4, 6, .int qo_30), (H_23.size, 4, 2, .int qk_30), (H_23.size, 4, 8, .int qg_30), (H_23.size, 4, 9, .int ql_30), (H_23.size, 4, 10, .int qd_30), (H_23.size, 4, 11, .int qv_30), (H_23.size, 4, 7, .int qf_30), (H_23.size, 4, 0, .ref bd_30), (s.heap.size, 2, 1, .int qc_6), (s.heap.size, 2, 0, .ref qa_6)]) [0, 1, 2, 3, 4, 5, 6, 7, 8, 9, 10, 11, 12, 13, 14, 15, 16, 17, 18, 19, 20, 21, 22, 23, 24, 25, 26] rfl (M1 := [(bd_30, 100, m_bd_30, ca 0, gb_30)]) [0] rfl (I1 := [(jFs11, jSef dC dI (va_up G_342 r0 (some (13, 0)))), (jFy, jYb dC dI (va_up G_342 r0 (some (13, 0)))), (jFcd, jCD dC dI ca G_342 none qtd_316), (jFdo, jDcc dC dI ca G_342 none (ph + 1500))]) [0, 1, 3, 4] rfl
  clear hh_400
  have hh_403 := hh_402.addI (jLs.ie hd_401)
  clear hh_402
  have hd_404 := jCD.grow (hh_403.iv 3 rfl) hle_369 hM_369 (by decide)
  have hh_405 := hh_403.sub (L1 := [(r0, 13, 11, .int 0), (r0, 13, 0, .ref s.heap.size), (r0, 13, 1, .ref H_23.size), (r0, 13, 4, .ref H_105.size), (r0, 13, 17, .ref H_335.size), (H_335.size, 2, 1, .int qc_342), (H_335.size, 2, 0, .ref qa_342), (H_309.size, 3, 10, .int qk_316), (H_309.size, 3, 4, .int qs_316), (H_309.size, 3, 3, .int ql_316), (H_132.size, 7, 0, .ref names_170), (H_105.size, 2, 1, .int qc_112), (H_105.size, 2, 0, .ref qa_112), (H_79.size, 2, 1, .int qc_86), (H_79.size, 2, 0, .ref qa_86), (H_23.size, 4, 4, .int qb_30), (H_23.size, 4, 5, .int qp_30), (H_23.size, 4, 6, .int qo_30), (H_23.size, 4, 2, .int qk_30), (H_23.size, 4, 8, .int qg_30), (H_23.size, 4, 9, .int ql_30), (H_23.size, 4, 10, .int qd_30), (H_23.size, 4, 11, .int qv_30), (H_23.size, 4, 7, .int qf_30), (H_23.size, 4, 0, .ref bd_30), (s.heap.size, 2, 1, .int qc_6), (s.heap.size, 2, 0, .ref qa_6)]) [0, 1, 2, 3, 4, 5, 6, 7, 8, 9, 10, 11, 12, 13, 14, 15, 16, 17, 18, 19, 20, 21, 22, 23, 24, 25, 26] rfl (M1 := [(bd_30, 100, m_bd_30, ca 0, gb_30)]) [0] rfl (I1 := [(jFl, jLs dC dI ca (va_up G_342 r0 (some (13, 0))) 3 none (0, wl.2)), (jFs11, jSef dC dI (va_up G_342 r0 (some (13, 0)))), (jFy, jYb dC dI (va_up G_342 r0 (some (13, 0)))), (jFdo, jDcc dC dI ca G_342 none (ph + 1500))]) [0, 1, 2, 4] rfl
  clear hh_403
  have hh_406 := hh_405.addI (jCD.ie hd_404)
  clear hh_405
  have hd_407 := jDcc.grow (hh_406.iv 4 rfl) hle_369 hM_369 (by decide)
  have hh_408 := hh_406.sub (L1 := [(r0, 13, 11, .int 0), (r0, 13, 0, .ref s.heap.size), (r0, 13, 1, .ref H_23.size), (r0, 13, 4, .ref H_105.size), (r0, 13, 17, .ref H_335.size), (H_335.size, 2, 1, .int qc_342), (H_335.size, 2, 0, .ref qa_342), (H_309.size, 3, 10, .int qk_316), (H_309.size, 3, 4, .int qs_316), (H_309.size, 3, 3, .int ql_316), (H_132.size, 7, 0, .ref names_170), (H_105.size, 2, 1, .int qc_112), (H_105.size, 2, 0, .ref qa_112), (H_79.size, 2, 1, .int qc_86), (H_79.size, 2, 0, .ref qa_86), (H_23.size, 4, 4, .int qb_30), (H_23.size, 4, 5, .int qp_30), (H_23.size, 4, 6, .int qo_30), (H_23.size, 4, 2, .int qk_30), (H_23.size, 4, 8, .int qg_30), (H_23.size, 4, 9, .int ql_30), (H_23.size, 4, 10, .int qd_30), (H_23.size, 4, 11, .int qv_30), (H_23.size, 4, 7, .int qf_30), (H_23.size, 4, 0, .ref bd_30), (s.heap.size, 2, 1, .int qc_6), (s.heap.size, 2, 0, .ref qa_6)]) [0, 1, 2, 3, 4, 5, 6, 7, 8, 9, 10, 11, 12, 13, 14, 15, 16, 17, 18, 19, 20, 21, 22, 23, 24, 25, 26] rfl (M1 := [(bd_30, 100, m_bd_30, ca 0, gb_30)]) [0] rfl (I1 := [(jFcd, jCD dC dI ca (va_up G_342 r0 (some (13, 0))) none qtd_316), (jFl, jLs dC dI ca (va_up G_342 r0 (some (13, 0))) 3 none (0, wl.2)), (jFs11, jSef dC dI (va_up G_342 r0 (some (13, 0)))), (jFy, jYb dC dI (va_up G_342 r0 (some (13, 0))))]) [0, 1, 2, 3] rfl
  clear hh_406
  have hh_409 := hh_408.addI (jDcc.ie hd_407)
  clear hh_408
  exact W.vret hx hb hr (fun t ht hW => ⟨⟨(qc_6, qb_30, qp_30, qo_30, qk_30, qg_30, ql_30, qd_30, qv_30, qf_30, 0, s.heap.size, 4000, H_23.size, 0, H_105.size, 0, H_335.size, 0, bd_30, m_bd_30, gb_30, qtd_316, (va_up G_342 r0 (some (13, 0)))), rfl, by (try dsimp only); exact ⟨(by first | omega | rfl | assumption | fail), (by first | omega | rfl | assumption | fail), (by first | omega | rfl | assumption | fail), (by first | omega | rfl | assumption | fail), (by first | omega | rfl | assumption | fail), (by first | omega | rfl | assumption | fail), (by first | omega | rfl | assumption | fail), (by first | omega | rfl | assumption | fail), (by first | omega | rfl | assumption | fail), (by first | omega | rfl | assumption | fail), (by first | omega | rfl | assumption | fail), (by first | omega | rfl | assumption | fail), (by first | omega | rfl | assumption | fail), (by first | omega | rfl | assumption | fail), (by first | omega | rfl | assumption | fail), (by first | omega | rfl | assumption | fail), (by first | omega | rfl | assumption | fail), (by first | omega | rfl | assumption | fail), (by first | assumption | fail | omega)⟩, ⟨hh_409.ra (by first | (simp only; omega) | omega) (by first | (simp only; omega) | omega) (M1 := [(s.heap.size, 2, 1, .int qc_6), (H_23.size, 4, 4, .int qb_30), (H_23.size, 4, 5, .int qp_30), (H_23.size, 4, 6, .int qo_30), (H_23.size, 4, 2, .int qk_30), (H_23.size, 4, 8, .int qg_30), (H_23.size, 4, 9, .int ql_30), (H_23.size, 4, 10, .int qd_30), (H_23.size, 4, 11, .int qv_30), (H_23.size, 4, 7, .int qf_30), (r0, 13, 11, .int 0), (r0, 13, 0, .ref s.heap.size), (r0, 13, 1, .ref H_23.size), (r0, 13, 4, .ref H_105.size), (r0, 13, 17, .ref H_335.size), (H_23.size, 4, 0, .ref bd_30)]) [25, 15, 16, 17, 18, 19, 20, 21, 22, 23, 0, 1, 2, 3, 4, 24] rfl ht, hg_390, hg_391, hg_392, hg_393, hg_374, hNn_369, hgn_369, by rw [ht]; exact hkp_389, by rw [ht]; exact hh_409.2.2.2.2.2.2.2.2.sub (L1 := [(jFy, jYb dC dI (va_up G_342 r0 (some (13, 0)))), (jFs11, jSef dC dI (va_up G_342 r0 (some (13, 0)))), (jFl, jLs dC dI ca (va_up G_342 r0 (some (13, 0))) 3 none (0, wl.2)), (jFdo, jDcc dC dI ca (va_up G_342 r0 (some (13, 0))) none (ph + 1500)), (jFcd, jCD dC dI ca (va_up G_342 r0 (some (13, 0))) none qtd_316)]) [4, 3, 2, 0, 1] rfl, by rw [ht]; exact hh_409.2.2.2.2.2.2.2.1.sub [0] rfl⟩⟩, by rw [ht]; try exact hh_409.1.1, fun q h9 hq => by rw [ht]; try exact hh_409.1.2.1 q h9 hq⟩) hh_409.1.2.2 dX11_init_174
end
