section
theorem dX11_changeDocument_0 : decode cX11_changeDocument 0 = .ok (.aload_n 0, 1) := by decide +kernel
theorem dX11_changeDocument_1 : decode cX11_changeDocument 1 = .ok (.getfield 28, 3) := by decide +kernel
theorem dX11_changeDocument_4 : decode cX11_changeDocument 4 = .ok (.iconst 0, 1) := by decide +kernel
theorem dX11_changeDocument_5 : decode cX11_changeDocument 5 = .ok (.ldc_w 271, 3) := by decide +kernel
theorem dX11_changeDocument_8 : decode cX11_changeDocument 8 = .ok (.invokevirtual 260, 3) := by decide +kernel
theorem dX11_changeDocument_11 : decode cX11_changeDocument 11 = .ok (.istore_n 1, 1) := by decide +kernel
theorem dX11_changeDocument_12 : decode cX11_changeDocument 12 = .ok (.aload_n 0, 1) := by decide +kernel
theorem dX11_changeDocument_13 : decode cX11_changeDocument 13 = .ok (.getfield 28, 3) := by decide +kernel
theorem dX11_changeDocument_16 : decode cX11_changeDocument 16 = .ok (.aload_n 0, 1) := by decide +kernel
theorem dX11_changeDocument_17 : decode cX11_changeDocument 17 = .ok (.getfield 28, 3) := by decide +kernel
theorem dX11_changeDocument_20 : decode cX11_changeDocument 20 = .ok (.iload_n 1, 1) := by decide +kernel
theorem dX11_changeDocument_21 : decode cX11_changeDocument 21 = .ok (.ldc_w 344, 3) := by decide +kernel
theorem dX11_changeDocument_24 : decode cX11_changeDocument 24 = .ok (.invokevirtual 260, 3) := by decide +kernel
theorem dX11_changeDocument_27 : decode cX11_changeDocument 27 = .ok (.ldc_w 354, 3) := by decide +kernel
theorem dX11_changeDocument_30 : decode cX11_changeDocument 30 = .ok (.invokevirtual 260, 3) := by decide +kernel
theorem dX11_changeDocument_33 : decode cX11_changeDocument 33 = .ok (.istore_n 2, 1) := by decide +kernel
theorem dX11_changeDocument_34 : decode cX11_changeDocument 34 = .ok (.aload_n 0, 1) := by decide +kernel
theorem dX11_changeDocument_35 : decode cX11_changeDocument 35 = .ok (.getfield 28, 3) := by decide +kernel
theorem dX11_changeDocument_38 : decode cX11_changeDocument 38 = .ok (.iload_n 1, 1) := by decide +kernel
theorem dX11_changeDocument_39 : decode cX11_changeDocument 39 = .ok (.ldc_w 382, 3) := by decide +kernel
theorem dX11_changeDocument_42 : decode cX11_changeDocument 42 = .ok (.invokevirtual 260, 3) := by decide +kernel
theorem dX11_changeDocument_45 : decode cX11_changeDocument 45 = .ok (.istore_n 3, 1) := by decide +kernel
theorem dX11_changeDocument_46 : decode cX11_changeDocument 46 = .ok (.aload_n 0, 1) := by decide +kernel
theorem dX11_changeDocument_47 : decode cX11_changeDocument 47 = .ok (.invokevirtual 359, 3) := by decide +kernel
theorem dX11_changeDocument_50 : decode cX11_changeDocument 50 = .ok (.astore 4, 2) := by decide +kernel
theorem dX11_changeDocument_52 : decode cX11_changeDocument 52 = .ok (.aload 4, 2) := by decide +kernel
theorem dX11_changeDocument_54 : decode cX11_changeDocument 54 = .ok (.ifnull 68, 3) := by decide +kernel
theorem dX11_changeDocument_57 : decode cX11_changeDocument 57 = .ok (.aload_n 0, 1) := by decide +kernel
theorem dX11_changeDocument_58 : decode cX11_changeDocument 58 = .ok (.getfield 28, 3) := by decide +kernel
theorem dX11_changeDocument_61 : decode cX11_changeDocument 61 = .ok (.iload_n 2, 1) := by decide +kernel
theorem dX11_changeDocument_62 : decode cX11_changeDocument 62 = .ok (.invokevirtual 283, 3) := by decide +kernel
theorem dX11_changeDocument_65 : decode cX11_changeDocument 65 = .ok (.iconst 4, 1) := by decide +kernel
theorem dX11_changeDocument_66 : decode cX11_changeDocument 66 = .ok (.if_icmp .ne 56, 3) := by decide +kernel
theorem dX11_changeDocument_69 : decode cX11_changeDocument 69 = .ok (.aload_n 0, 1) := by decide +kernel
theorem dX11_changeDocument_70 : decode cX11_changeDocument 70 = .ok (.getfield 28, 3) := by decide +kernel
theorem dX11_changeDocument_73 : decode cX11_changeDocument 73 = .ok (.iload_n 2, 1) := by decide +kernel
theorem dX11_changeDocument_74 : decode cX11_changeDocument 74 = .ok (.invokevirtual 367, 3) := by decide +kernel
theorem dX11_changeDocument_77 : decode cX11_changeDocument 77 = .ok (.aload 4, 2) := by decide +kernel
theorem dX11_changeDocument_79 : decode cX11_changeDocument 79 = .ok (.getfield 162, 3) := by decide +kernel
theorem dX11_changeDocument_82 : decode cX11_changeDocument 82 = .ok (.if_icmp .le 40, 3) := by decide +kernel
theorem dX11_changeDocument_85 : decode cX11_changeDocument 85 = .ok (.aload_n 0, 1) := by decide +kernel
theorem dX11_changeDocument_86 : decode cX11_changeDocument 86 = .ok (.getfield 28, 3) := by decide +kernel
theorem dX11_changeDocument_89 : decode cX11_changeDocument 89 = .ok (.iload_n 3, 1) := by decide +kernel
theorem dX11_changeDocument_90 : decode cX11_changeDocument 90 = .ok (.invokevirtual 283, 3) := by decide +kernel
theorem dX11_changeDocument_93 : decode cX11_changeDocument 93 = .ok (.iconst 2, 1) := by decide +kernel
theorem dX11_changeDocument_94 : decode cX11_changeDocument 94 = .ok (.if_icmp .ne 28, 3) := by decide +kernel
theorem dX11_changeDocument_97 : decode cX11_changeDocument 97 = .ok (.aload_n 0, 1) := by decide +kernel
theorem dX11_changeDocument_98 : decode cX11_changeDocument 98 = .ok (.getfield 28, 3) := by decide +kernel
theorem dX11_changeDocument_101 : decode cX11_changeDocument 101 = .ok (.iload_n 3, 1) := by decide +kernel
theorem dX11_changeDocument_102 : decode cX11_changeDocument 102 = .ok (.invokevirtual 356, 3) := by decide +kernel
theorem dX11_changeDocument_105 : decode cX11_changeDocument 105 = .ok (.iconst 1, 1) := by decide +kernel
theorem dX11_changeDocument_106 : decode cX11_changeDocument 106 = .ok (.if_icmp .lt 16, 3) := by decide +kernel
theorem dX11_changeDocument_109 : decode cX11_changeDocument 109 = .ok (.aload_n 0, 1) := by decide +kernel
theorem dX11_changeDocument_110 : decode cX11_changeDocument 110 = .ok (.getfield 28, 3) := by decide +kernel
theorem dX11_changeDocument_113 : decode cX11_changeDocument 113 = .ok (.iload_n 3, 1) := by decide +kernel
theorem dX11_changeDocument_114 : decode cX11_changeDocument 114 = .ok (.invokevirtual 356, 3) := by decide +kernel
theorem dX11_changeDocument_117 : decode cX11_changeDocument 117 = .ok (.bipush 8, 2) := by decide +kernel
theorem dX11_changeDocument_119 : decode cX11_changeDocument 119 = .ok (.if_icmp .le 4, 3) := by decide +kernel
theorem dX11_changeDocument_122 : decode cX11_changeDocument 122 = .ok (.return_, 1) := by decide +kernel
theorem dX11_changeDocument_123 : decode cX11_changeDocument 123 = .ok (.aload_n 0, 1) := by decide +kernel
theorem dX11_changeDocument_124 : decode cX11_changeDocument 124 = .ok (.getfield 82, 3) := by decide +kernel
theorem dX11_changeDocument_127 : decode cX11_changeDocument 127 = .ok (.aload 4, 2) := by decide +kernel
theorem dX11_changeDocument_129 : decode cX11_changeDocument 129 = .ok (.invokevirtual 384, 3) := by decide +kernel
theorem dX11_changeDocument_132 : decode cX11_changeDocument 132 = .ok (.aload_n 0, 1) := by decide +kernel
theorem dX11_changeDocument_133 : decode cX11_changeDocument 133 = .ok (.getfield 28, 3) := by decide +kernel
theorem dX11_changeDocument_136 : decode cX11_changeDocument 136 = .ok (.iload_n 3, 1) := by decide +kernel
theorem dX11_changeDocument_137 : decode cX11_changeDocument 137 = .ok (.invokevirtual 388, 3) := by decide +kernel
theorem dX11_changeDocument_140 : decode cX11_changeDocument 140 = .ok (.istore 5, 2) := by decide +kernel
theorem dX11_changeDocument_142 : decode cX11_changeDocument 142 = .ok (.iconst 0, 1) := by decide +kernel
theorem dX11_changeDocument_143 : decode cX11_changeDocument 143 = .ok (.istore 6, 2) := by decide +kernel
theorem dX11_changeDocument_145 : decode cX11_changeDocument 145 = .ok (.iload 6, 2) := by decide +kernel
theorem dX11_changeDocument_147 : decode cX11_changeDocument 147 = .ok (.aload_n 0, 1) := by decide +kernel
theorem dX11_changeDocument_148 : decode cX11_changeDocument 148 = .ok (.getfield 28, 3) := by decide +kernel
theorem dX11_changeDocument_151 : decode cX11_changeDocument 151 = .ok (.iload_n 3, 1) := by decide +kernel
theorem dX11_changeDocument_152 : decode cX11_changeDocument 152 = .ok (.invokevirtual 356, 3) := by decide +kernel
theorem dX11_changeDocument_155 : decode cX11_changeDocument 155 = .ok (.if_icmp .ge 30, 3) := by decide +kernel
theorem dX11_changeDocument_158 : decode cX11_changeDocument 158 = .ok (.aload_n 0, 1) := by decide +kernel
theorem dX11_changeDocument_159 : decode cX11_changeDocument 159 = .ok (.iload 5, 2) := by decide +kernel
theorem dX11_changeDocument_161 : decode cX11_changeDocument 161 = .ok (.invokevirtual 391, 3) := by decide +kernel
theorem dX11_changeDocument_164 : decode cX11_changeDocument 164 = .ok (.ifCond .ne 4, 3) := by decide +kernel
theorem dX11_changeDocument_167 : decode cX11_changeDocument 167 = .ok (.return_, 1) := by decide +kernel
theorem dX11_changeDocument_168 : decode cX11_changeDocument 168 = .ok (.aload_n 0, 1) := by decide +kernel
theorem dX11_changeDocument_169 : decode cX11_changeDocument 169 = .ok (.getfield 28, 3) := by decide +kernel
theorem dX11_changeDocument_172 : decode cX11_changeDocument 172 = .ok (.iload 5, 2) := by decide +kernel
theorem dX11_changeDocument_174 : decode cX11_changeDocument 174 = .ok (.invokevirtual 394, 3) := by decide +kernel
theorem dX11_changeDocument_177 : decode cX11_changeDocument 177 = .ok (.istore 5, 2) := by decide +kernel
theorem dX11_changeDocument_179 : decode cX11_changeDocument 179 = .ok (.iinc 6 1, 3) := by decide +kernel
theorem dX11_changeDocument_182 : decode cX11_changeDocument 182 = .ok (.goto (-37), 3) := by decide +kernel
theorem dX11_changeDocument_185 : decode cX11_changeDocument 185 = .ok (.aload_n 0, 1) := by decide +kernel
theorem dX11_changeDocument_186 : decode cX11_changeDocument 186 = .ok (.aload 4, 2) := by decide +kernel
theorem dX11_changeDocument_188 : decode cX11_changeDocument 188 = .ok (.invokevirtual 397, 3) := by decide +kernel
theorem dX11_changeDocument_191 : decode cX11_changeDocument 191 = .ok (.aload 4, 2) := by decide +kernel
theorem dX11_changeDocument_193 : decode cX11_changeDocument 193 = .ok (.aload_n 0, 1) := by decide +kernel
theorem dX11_changeDocument_194 : decode cX11_changeDocument 194 = .ok (.getfield 82, 3) := by decide +kernel
theorem dX11_changeDocument_197 : decode cX11_changeDocument 197 = .ok (.invokevirtual 384, 3) := by decide +kernel
theorem dX11_changeDocument_200 : decode cX11_changeDocument 200 = .ok (.aload 4, 2) := by decide +kernel
theorem dX11_changeDocument_202 : decode cX11_changeDocument 202 = .ok (.aload_n 0, 1) := by decide +kernel
theorem dX11_changeDocument_203 : decode cX11_changeDocument 203 = .ok (.getfield 28, 3) := by decide +kernel
theorem dX11_changeDocument_206 : decode cX11_changeDocument 206 = .ok (.iload_n 2, 1) := by decide +kernel
theorem dX11_changeDocument_207 : decode cX11_changeDocument 207 = .ok (.invokevirtual 367, 3) := by decide +kernel
theorem dX11_changeDocument_210 : decode cX11_changeDocument 210 = .ok (.putfield 162, 3) := by decide +kernel
theorem dX11_changeDocument_213 : decode cX11_changeDocument 213 = .ok (.aload 4, 2) := by decide +kernel
theorem dX11_changeDocument_215 : decode cX11_changeDocument 215 = .ok (.aload_n 0, 1) := by decide +kernel
theorem dX11_changeDocument_216 : decode cX11_changeDocument 216 = .ok (.getfield 41, 3) := by decide +kernel
theorem dX11_changeDocument_219 : decode cX11_changeDocument 219 = .ok (.getfield 203, 3) := by decide +kernel
theorem dX11_changeDocument_222 : decode cX11_changeDocument 222 = .ok (.invokevirtual 207, 3) := by decide +kernel
theorem dX11_changeDocument_225 : decode cX11_changeDocument 225 = .ok (.aload 4, 2) := by decide +kernel
theorem dX11_changeDocument_227 : decode cX11_changeDocument 227 = .ok (.invokevirtual 400, 3) := by decide +kernel
theorem dX11_changeDocument_230 : decode cX11_changeDocument 230 = .ok (.ifCond .ne 9, 3) := by decide +kernel
theorem dX11_changeDocument_233 : decode cX11_changeDocument 233 = .ok (.aload_n 0, 1) := by decide +kernel
theorem dX11_changeDocument_234 : decode cX11_changeDocument 234 = .ok (.aload 4, 2) := by decide +kernel
theorem dX11_changeDocument_236 : decode cX11_changeDocument 236 = .ok (.invokevirtual 403, 3) := by decide +kernel
theorem dX11_changeDocument_239 : decode cX11_changeDocument 239 = .ok (.aload 4, 2) := by decide +kernel
theorem dX11_changeDocument_241 : decode cX11_changeDocument 241 = .ok (.getfield 171, 3) := by decide +kernel
theorem dX11_changeDocument_244 : decode cX11_changeDocument 244 = .ok (.aload 4, 2) := by decide +kernel
theorem dX11_changeDocument_246 : decode cX11_changeDocument 246 = .ok (.getfield 168, 3) := by decide +kernel
theorem dX11_changeDocument_249 : decode cX11_changeDocument 249 = .ok (.if_icmp .ne 10, 3) := by decide +kernel
theorem dX11_changeDocument_252 : decode cX11_changeDocument 252 = .ok (.aload_n 0, 1) := by decide +kernel
theorem dX11_changeDocument_253 : decode cX11_changeDocument 253 = .ok (.aload 4, 2) := by decide +kernel
theorem dX11_changeDocument_255 : decode cX11_changeDocument 255 = .ok (.iconst 1, 1) := by decide +kernel
theorem dX11_changeDocument_256 : decode cX11_changeDocument 256 = .ok (.invokevirtual 378, 3) := by decide +kernel
theorem dX11_changeDocument_259 : decode cX11_changeDocument 259 = .ok (.return_, 1) := by decide +kernel
def EX11_changeDocument : List (Nat × Nat) := [(1, 0), (1, 2), (2, 0), (2, 1), (3, 1), (3, 3), (3, 4), (3, 10), (3, 11), (3, 12), (3, 13), (3, 14), (3, 15), (3, 16), (8, 3), (12, 3), (13, 14), (101, 0), (102, 0), (132, 0), (133, 0), (171, 0), (172, 0), (196, 0), (212, 0), (221, 0), (222, 0), (223, 0), (293, 0)]
set_option maxHeartbeats 4000000 in
set_option maxRecDepth 20000 in
theorem uX11_changeDocument (l : Launch) (dC : Nat → ClassId) (dI : Nat → Nat → Nat) (ca : Nat → ClassId) (base : Nat) (B : jF) (hB : jBok B) (hAp : jAp (dC, dI)) (hB1 : ∀ n G a H, B 1 n G a H ↔ jOb (dC, dI) 1 3 (F1 n G) a H) (hB2 : ∀ n G a H, B 2 n G a H ↔ jOb (dC, dI) 2 2 (F2 n G) a H) (hB3 : ∀ n G a H, B 3 n G a H ↔ jOb (dC, dI) 3 17 (F3 n G) a H) (hB4 : ∀ n G a H, B 4 n G a H ↔ jOb (dC, dI) 4 12 (F4 n G) a H) (hB6 : ∀ n G a H, B 6 n G a H ↔ jOb (dC, dI) 6 12 (F6 n G) a H) (hB7 : ∀ n G a H, B 7 n G a H ↔ jOb (dC, dI) 7 11 (F7 n G) a H) (hB8 : ∀ n G a H, B 8 n G a H ↔ jOb (dC, dI) 8 4 (F8 n G) a H) (hB10 : ∀ n G a H, B 10 n G a H ↔ jOb (dC, dI) 10 5 (F10 n G) a H) (hB11 : ∀ n G a H, B 11 n G a H ↔ jOb (dC, dI) 11 9 (F11 n G) a H) (hB12 : ∀ n G a H, B 12 n G a H ↔ jOb (dC, dI) 12 11 (F12b n G) a H) (hB13 : ∀ n G a H, B 13 n G a H ↔ jOb (dC, dI) 13 19 (F13 n G) a H) (hB101 : ∀ n G a H, B 101 n G a H ↔ jAr (dC, dI) (ca 1) (fun j z => True) n a H) (hB102 : ∀ n G a H, B 102 n G a H ↔ jAl (dC, dI) (ca 2) n a H) (hB132 : ∀ n G a H, B 132 n G a H ↔ jAr (dC, dI) (ca 1) (fun j z => 0 ≤ z.toInt ∧ z.toInt ≤ 10) n a H) (hB133 : ∀ n G a H, B 133 n G a H ↔ jAr (dC, dI) (ca 1) (fun j z => 0 ≤ z.toInt ∧ z.toInt ≤ 8192) n a H) (hB140 : ∀ n G a H, B 140 n G a H ↔ jAr (dC, dI) (ca 1) (fun j z => True) n a H) (hB141 : ∀ n G a H, B 141 n G a H ↔ jAr (dC, dI) (ca 1) (fun j z => True) n a H) (hB142 : ∀ n G a H, B 142 n G a H ↔ jAr (dC, dI) (ca 1) (fun j z => True) n a H) (hB143 : ∀ n G a H, B 143 n G a H ↔ jAr (dC, dI) (ca 1) (fun j z => True) n a H) (hB144 : ∀ n G a H, B 144 n G a H ↔ jAr (dC, dI) (ca 1) (fun j z => 0 ≤ z.toInt ∧ z.toInt ≤ 3000) n a H) (hB145 : ∀ n G a H, B 145 n G a H ↔ jAr (dC, dI) (ca 1) (fun j z => True) n a H) (hB146 : ∀ n G a H, B 146 n G a H ↔ jAr (dC, dI) (ca 1) (fun j z => True) n a H) (hB171 : ∀ n G a H, B 171 n G a H ↔ jAr (dC, dI) (ca 1) (fun j z => 0 ≤ z.toInt ∧ z.toInt ≤ 1500) n a H) (hB172 : ∀ n G a H, B 172 n G a H ↔ jAr (dC, dI) (ca 1) (fun j z => 0 ≤ z.toInt ∧ z.toInt ≤ 1500) n a H) (hB196 : ∀ n G a H, B 196 n G a H ↔ jAr (dC, dI) (ca 0) (fun j z => jBf j z) n a H) (hB210 : ∀ n G a H, B 210 n G a H ↔ jAq (dC, dI) (ca 6) (jQn 11 0) n G a H) (hB212 : ∀ n G a H, B 212 n G a H ↔ jAq (dC, dI) (ca 5) (jQn 3 0) n G a H) (hB221 : ∀ n G a H, B 221 n G a H ↔ jAq (dC, dI) (ca 9) (jQn 3 0) n G a H) (hB222 : ∀ n G a H, B 222 n G a H ↔ jAq (dC, dI) (ca 9) (jQn 10 0) n G a H) (hB293 : ∀ n G a H, B 293 n G a H ↔ jAr (dC, dI) (ca 1) (fun j z => -1 ≤ z.toInt ∧ z.toInt ≤ 8191) n a H) (G0 : jT) (H0 : Heap) (r0 : Nat) (bo : Nat) (pc : Int32) (pa : Nat) (n_pa : Nat) (ou : Nat) (js : Nat) (pv : Int32) (pu : Int32) (wk : Nat) (wi : Nat) (wz : Nat) (jkf : Nat) (jks : Nat) (fm : Nat) (fl : Int32) (op : Nat) (sz : Int32) (ph : Nat) (fk : Nat → Int32) (fi : Nat → Int32) (fz : Nat → Int32) (fa : Nat → Int32) (fs : Nat → Int32) (LC LS : Nat) : Met l yX11_changeDocument (jw yX11_changeDocument cX11_changeDocument 7 none) ({ frames := 8, cells := LC - H0.size, slots := LS - jTot H0, locals := 239 }) (va_Pc [.ref r0] (fun U => U.heap = H0 ∧ jX B base G0 [] H0 ∧ jG dC dI ca base U ∧ jK2 dC dI ca U ∧ jK5 dC dI ca U ∧ jK6 U ∧ jK7 dC dI ca base U ∧ G0 r0 = some (13, 0) ∧ G0 bo = some (2, 0) ∧ G0 pa = some (196, n_pa) ∧ G0 ou = some (2, 20000) ∧ G0 js = some (6, 0) ∧ G0 wk = some (140, 1502) ∧ G0 wi = some (141, 1502) ∧ G0 wz = some (142, 1502) ∧ G0 jkf = some (144, 1502) ∧ G0 jks = some (145, 1502) ∧ G0 fm = some (4, 0) ∧ G0 op = some (1, 1) ∧ jP (dC, dI) G0 H0 [(r0, 13, 4, .ref bo), (bo, 2, 1, .int pc), (bo, 2, 0, .ref pa), (r0, 13, 3, .ref ou), (r0, 13, 2, .ref js), (js, 6, 7, .int pv), (js, 6, 8, .int pu), (js, 6, 0, .ref wk), (js, 6, 1, .ref wi), (js, 6, 2, .ref wz), (js, 6, 4, .ref jkf), (js, 6, 5, .ref jks), (r0, 13, 1, .ref fm), (fm, 4, 1, .int fl), (r0, 13, 7, .ref op), (op, 1, 2, .int sz)] ∧ jMc (dC, dI) G0 H0 [(wk, 140, 1502, ca 1, fk), (wi, 141, 1502, ca 1, fi), (wz, 142, 1502, ca 1, fz), (jkf, 144, 1502, ca 1, fa), (jks, 145, 1502, ca 1, fs)] ∧ jIs (dC, dI) G0 H0 [(jFy, jYb dC dI G0), (jFl, jLs dC dI ca G0 3 none), (jFdo, jDcc dC dI ca G0 none ph)] ∧ H0.size + (1048576 - n_pa) / 16 + 1 + (ph + 200 * fl.toInt.toNat) / 16 ≤ LC ∧ jTot H0 + 2 * (1048576 - n_pa) + ph + 200 * fl.toInt.toNat ≤ LS ∧ 0 ≤ pc.toInt ∧ pc.toInt ≤ n_pa ∧ 16 ≤ n_pa ∧ n_pa ≤ 1048576 ∧ jPw n_pa ∧ 0 ≤ pv.toInt ∧ pv.toInt ≤ 1502 ∧ 0 ≤ pu.toInt ∧ pu.toInt ≤ 3000 ∧ jJq fk fi fz pv.toInt ∧ jJu fk fz pv.toInt pu.toInt ∧ jMg (fk, fi, fz, fa, fs) pv.toInt pu.toInt fl.toInt 22 ∧ 0 ≤ fl.toInt ∧ 0 ≤ sz.toInt ∧ sz.toInt ≤ 40)) (va_Qv (S := Int32 × Nat × Nat × Nat × jT) (fun u => 0 ≤ u.1.toInt ∧ u.1.toInt ≤ u.2.2.1 ∧ n_pa ≤ u.2.2.1 ∧ u.2.2.1 ≤ 1048576 ∧ jPw u.2.2.1 ∧ u.2.2.2.1 ≤ ph + 200 * fl.toInt) (fun u t => jRa (dC, dI) B base G0 u.2.2.2.2 EX11_changeDocument H0 ((u.2.2.1 - n_pa) / 16 + (ph + 200 * fl.toInt.toNat - u.2.2.2.1) / 16) (2 * (u.2.2.1 - n_pa) + (ph + 200 * fl.toInt.toNat - u.2.2.2.1)) [(bo, 2, 1, .int u.1), (bo, 2, 0, .ref u.2.1)] t.heap ∧ u.2.2.2.2 u.2.1 = some (196, u.2.2.1) ∧ (jNk [0, 1, 2, 3, 4, 5, 6, 7, 8, 9, 10, 11, 12, 13, 14, 15, 16]) G0 u.2.2.2.2 ∧ jOl (dC, dI) G0 2 [bo, ou] H0 t.heap ∧ jIs (dC, dI) u.2.2.2.2 t.heap [(jFy, jYb dC dI u.2.2.2.2), (jFl, jLs dC dI ca u.2.2.2.2 3 none), (jFdo, jDcc dC dI ca u.2.2.2.2 none (u.2.2.2.1))]) (jA base)) (LC - H0.size) (LS - jTot H0) (jA base) := by
  refine Met.ofW (cc := cX11_changeDocument) (maxL := 7) (ret := none) (by decide) rfl ?_
  intro p e s m args below meth c s₁ Bd hml hv
  obtain ⟨rfl, hH0, hX, hG, hK2, hK5, hK6, hK7, hg_r0, hg_bo, hg_pa, hg_ou, hg_js, hg_wk, hg_wi, hg_wz, hg_jkf, hg_jks, hg_fm, hg_op, hP0, hM0, hI0, hLC0, hLS0, hp0, hp1, hp2, hp3, hp4, hp5, hp6, hp7, hp8, hp9, hp10, hp11, hp12, hp13, hp14⟩ := hv
  have hK := hG.1
  have hx := Bd.exec
  have hb := Bd.bytes
  have hr := Bd.returns
  have hts := atoms_spec (ws := (jw yX11_changeDocument cX11_changeDocument 7 none)) Bd.pre
  have htw : ∀ w ∈ jWl, w.before _ s = true := fun w h => hts w (List.mem_cons_of_mem _ h)
  have hown : s.vm.findClass RX11 = some m.cls := findClass_of_methodNamed Bd.named
  have hlocks := Bd.notSynchronized
  obtain ⟨Q, hQ⟩ : ∃ Q, Q = MQ below (va_Qv (S := Int32 × Nat × Nat × Nat × jT) (fun u => 0 ≤ u.1.toInt ∧ u.1.toInt ≤ u.2.2.1 ∧ n_pa ≤ u.2.2.1 ∧ u.2.2.1 ≤ 1048576 ∧ jPw u.2.2.1 ∧ u.2.2.2.1 ≤ ph + 200 * fl.toInt) (fun u t => jRa (dC, dI) B base G0 u.2.2.2.2 EX11_changeDocument H0 ((u.2.2.1 - n_pa) / 16 + (ph + 200 * fl.toInt.toNat - u.2.2.2.1) / 16) (2 * (u.2.2.1 - n_pa) + (ph + 200 * fl.toInt.toNat - u.2.2.2.1)) [(bo, 2, 1, .int u.1), (bo, 2, 0, .ref u.2.1)] t.heap ∧ u.2.2.2.2 u.2.1 = some (196, u.2.2.1) ∧ (jNk [0, 1, 2, 3, 4, 5, 6, 7, 8, 9, 10, 11, 12, 13, 14, 15, 16]) G0 u.2.2.2.2 ∧ jOl (dC, dI) G0 2 [bo, ou] H0 t.heap ∧ jIs (dC, dI) u.2.2.2.2 t.heap [(jFy, jYb dC dI u.2.2.2.2), (jFl, jLs dC dI ca u.2.2.2.2 3 none), (jFdo, jDcc dC dI ca u.2.2.2.2 none (u.2.2.2.1))]) (jA base)) ([.ref r0] : List Value).toArray s (LC - H0.size) (LS - jTot H0) (jA base) := ⟨_, rfl⟩
  rw [← hQ]
  have hl := lv_entry ([.ref r0]) (n := 7) (Nat.le_of_ble_eq_true rfl)
  rw [lg_entry_eq]
  generalize (lg_sl ([.ref r0]) ++ List.replicate (7 - (lg_sl ([.ref r0])).length) Slot.unset).toArray = ls at hl ⊢
  have hl : lv_has ls 7 [(0, .ref r0)] := hl
  generalize hR : (headSpec (jw yX11_changeDocument cX11_changeDocument 7 none) ({ frames := 8, cells := LC - H0.size, slots := LS - jTot H0, locals := 239 })).room = R
  subst hH0
  have hh : jSt (dC, dI) B base G0 G0 EX11_changeDocument s.heap 0 0 [(r0, 13, 4, .ref bo), (bo, 2, 1, .int pc), (bo, 2, 0, .ref pa), (r0, 13, 3, .ref ou), (r0, 13, 2, .ref js), (js, 6, 7, .int pv), (js, 6, 8, .int pu), (js, 6, 0, .ref wk), (js, 6, 1, .ref wi), (js, 6, 2, .ref wz), (js, 6, 4, .ref jkf), (js, 6, 5, .ref jks), (r0, 13, 1, .ref fm), (fm, 4, 1, .int fl), (r0, 13, 7, .ref op), (op, 1, 2, .int sz)] [(wk, 140, 1502, ca 1, fk), (wi, 141, 1502, ca 1, fi), (wz, 142, 1502, ca 1, fz), (jkf, 144, 1502, ca 1, fa), (jks, 145, 1502, ca 1, fs)] [(jFy, jYb dC dI G0), (jFl, jLs dC dI ca G0 3 none), (jFdo, jDcc dC dI ca G0 none ph)] s.heap [] := jSt.start hX hP0 hM0 hI0
  clear hX hP0
  have hk0 : (0 : Int32).toInt = 0 := by decide
  have hk1 : (1 : Int32).toInt = 1 := by decide
  have hk2 : (2 : Int32).toInt = 2 := by decide
  have hk4 : (4 : Int32).toInt = 4 := by decide
  have hk8 : (8 : Int32).toInt = 8 := by decide
  have hly_3_1 := htw (u_lay RX1 TX1 1) (jWc_wsX10 _ (u_in_lay (by decide)))
  have hly_3_4 := htw (u_lay RX1 TX1 4) (jWc_wsX10 _ (u_in_lay (by decide)))
  have hly_3_10 := htw (u_lay RX1 TX1 10) (jWc_wsX10 _ (u_in_lay (by decide)))
  have hly_7_1 := htw (u_lay RX5 TX5 1) (jWc_wsX50 _ (u_in_lay (by decide)))
  have hly_13_2 := htw (u_lay RX11 TX11 2) (jWc_wsX110 _ (u_in_lay (by decide)))
  have hly_13_5 := htw (u_lay RX11 TX11 5) (jWc_wsX110 _ (u_in_lay (by decide)))
  have hly_13_15 := htw (u_lay RX11 TX11 15) (jWc_wsX110 _ (u_in_lay (by decide)))
  have hlk_28 := (htw (.fieldLink RX11 28 "ProofServer" "json" "LProofServer$Json;") (jWr_1 _ (List.mem_of_getElem? (i := 23) rfl)))
  obtain ⟨str271, rstr271, hstr2710⟩ := hG.str (o := RX11) (k := 271) (tx := "params") (List.mem_of_getElem? (i := 852) (by decide +kernel))
  have hstr271 : jStr base str271 6 s s.heap := hstr2710
  obtain ⟨str344, rstr344, hstr3440⟩ := hG.str (o := RX11) (k := 344) (tx := "textDocument") (List.mem_of_getElem? (i := 879) (by decide +kernel))
  have hstr344 : jStr base str344 12 s s.heap := hstr3440
  obtain ⟨str354, rstr354, hstr3540⟩ := hG.str (o := RX11) (k := 354) (tx := "version") (List.mem_of_getElem? (i := 1101) (by decide +kernel))
  have hstr354 : jStr base str354 7 s s.heap := hstr3540
  obtain ⟨str382, rstr382, hstr3820⟩ := hG.str (o := RX11) (k := 382) (tx := "contentChanges") (List.mem_of_getElem? (i := 1256) (by decide +kernel))
  have hstr382 : jStr base str382 14 s s.heap := hstr3820
  have hlk_162 := (htw (.fieldLink RX11 162 "ProofServer$Document" "version" "I") (jWr_35 _ (List.mem_of_getElem? (i := 15) rfl)))
  have hlk_82 := (htw (.fieldLink RX11 82 "ProofServer" "spare" "LProofServer$Document;") (jWr_2 _ (List.mem_of_getElem? (i := 22) rfl)))
  have hlk_41 := (htw (.fieldLink RX11 41 "ProofServer" "kernel" "LProofServer$Kernel;") (jWr_2 _ (List.mem_of_getElem? (i := 5) rfl)))
  have hlk_203 := (htw (.fieldLink RX11 203 "ProofServer$Kernel" "syntax" "LProofServer$Syntax;") (jWr_35 _ (List.mem_of_getElem? (i := 16) rfl)))
  have hlk_171 := (htw (.fieldLink RX11 171 "ProofServer$Document" "checked" "I") (jWr_35 _ (List.mem_of_getElem? (i := 17) rfl)))
  have hlk_168 := (htw (.fieldLink RX11 168 "ProofServer$Document" "sentences" "I") (jWr_35 _ (List.mem_of_getElem? (i := 4) rfl)))
  have hbs : base ≤ s.heap.size := Nat.le_of_lt (Nat.lt_of_le_of_lt (hh.ab hg_r0).1 (hh.ab hg_r0).2)
  have hRc : R.cells = LC - s.heap.size := by rw [← hR]; rfl
  have hRs : R.slots = LS - jTot s.heap := by rw [← hR]; rfl
  have hh_1 := hh.addI (jOl.ie (dC := dC) (dI := dI) (G0 := G0) (k := 2) (rs := [bo, ou]) (H0 := s.heap) (F := [(2, 0), (2, 1)]) (C := RX0) (T := TX0) (N := 2) rfl (by decide) hh.2.2.2.2.1 (jOl.rf))
  clear hh
  refine lv_aload_n hx hb dX11_changeDocument_0 rfl (lv_at hl 0 rfl) ?_
  refine j7_read hx hb hown hK (C := RX11) (T := TX11) (N := 19) rfl hly_13_2 hlk_28 (hh_1.at 4 rfl) dX11_changeDocument_1 ?_
  refine lv_iconst (v := 0) hx hb dX11_changeDocument_4 (by decide) ?_
  refine j_ldcSw hx hb hown rstr271 dX11_changeDocument_5 ?_
  have hsz_2 := hh_1.2.2.2.2.2.1
  have htt_2 := hh_1.2.2.2.2.2.2.1
  refine W.room (fun hrc_2 hrs_2 => ?_)
  refine va_calli (A0 := jA base) (H0 := s.heap) (va_runV (As := [.int 0, .ref str271]) (rest := []) ⟨hx, hb, hml, hown, hts⟩ (uX4_memberQ l dC dI ca base B hB hAp hB6 hB140 hB141 hB142 hB143 hB144 hB145 hB146 G0 s.heap js 0 str271 6 pv wk wi wz jks fk fi fz fs) (cwV 2 hts (jgV (jWr_23 _ (List.mem_of_getElem? (i := 10) rfl)) (jWr_23 _ (List.mem_of_getElem? (i := 11) rfl)) (jWr_23 _ (List.mem_of_getElem? (i := 12) rfl)) (jWr_1 _ (List.mem_of_getElem? (i := 22) rfl)) (jWr_23 _ (List.mem_of_getElem? (i := 13) rfl))) rfl rfl rfl (by decide +kernel) ⟨by rw [← hR]; exact Nat.le_of_ble_eq_true rfl, by rw [← hR]; exact Nat.le_of_ble_eq_true rfl⟩) ⟨fun a U g mk q => by obtain ⟨q0, q1, q2, qK, q10, q11, q12, q13, q14, q15, q16, q17, q18⟩ := q; exact ⟨q0, q1, q2, jG.calling g mk a qK, (q10.moved (Vm.Alike.refl U.vm)), q11, q12, q13, q14, q15, q16, q17, q18⟩, hh_1.recv (C := RX4) (T := TX4) (N := 12) hB6 rfl (by decide) hg_js hK, fun U hU hW => ⟨rfl, hU, hh_1.2.1, hG.step hW hU hh_1.1, (hstr271.moved hW.alike).kept hh_1.1.2.1, hg_js, hg_wk, hg_wi, hg_wz, hg_jks, (hh_1.2.2.1.sub (L1 := [(js, 6, 7, .int pv), (js, 6, 0, .ref wk), (js, 6, 1, .ref wi), (js, 6, 2, .ref wz), (js, 6, 5, .ref jks)]) [5, 7, 8, 9, 11] rfl), (hh_1.2.2.2.2.2.2.2.1.sub (L1 := [(wk, 140, 1502, ca 1, fk), (wi, 141, 1502, ca 1, fi), (wz, 142, 1502, ca 1, fz), (jks, 145, 1502, ca 1, fs)]) [0, 1, 2, 4] rfl), ⟨(by first | (with_reducible assumption) | omega | rfl | fail), (by first | (with_reducible assumption) | omega | rfl | fail), (by first | (with_reducible assumption) | omega | rfl | fail)⟩⟩⟩ rfl rfl hl.1 rfl (lv_room (Nat.le_of_ble_eq_true rfl)) dX11_changeDocument_8 ⟨by rw [hRc]; show _ + 0 ≤ _; omega, by rw [hRs]; show _ + 0 ≤ _; omega⟩) hh_1.1 (fun q _ h => h) (fun q h => h) (fun r_3 u_2 t_2 H_2 locs_2 ht_2 hvm_2 hr_3 hb_2 hz_2 hk_2 hS_2 => ?_)
  rw [ht_2] at hb_2
  obtain ⟨hb_2, hbF_2⟩ := hb_2
  obtain ⟨hb_21, hb_22, hb_23, hb_24, hb_25⟩ := hb_2
  have hh_2 : jSt (dC, dI) B base G0 G0 EX11_changeDocument s.heap 0 0 [(r0, 13, 4, .ref bo), (bo, 2, 1, .int pc), (bo, 2, 0, .ref pa), (r0, 13, 3, .ref ou), (r0, 13, 2, .ref js), (js, 6, 7, .int pv), (js, 6, 8, .int pu), (js, 6, 0, .ref wk), (js, 6, 1, .ref wi), (js, 6, 2, .ref wz), (js, 6, 4, .ref jkf), (js, 6, 5, .ref jks), (r0, 13, 1, .ref fm), (fm, 4, 1, .int fl), (r0, 13, 7, .ref op), (op, 1, 2, .int sz)] [(wk, 140, 1502, ca 1, fk), (wi, 141, 1502, ca 1, fi), (wz, 142, 1502, ca 1, fz), (jkf, 144, 1502, ca 1, fa), (jks, 145, 1502, ca 1, fs)] [([(2, 0), (2, 1)], jOl (dC, dI) G0 2 [bo, ou] s.heap), (jFy, jYb dC dI G0), (jFl, jLs dC dI ca G0 3 none), (jFdo, jDcc dC dI ca G0 none ph)] H_2 locs_2 := ((hh_1.call hb_21 hb_22 hb_23 hb_24 hS_2 rfl (L1 := [(r0, 13, 4, .ref bo), (bo, 2, 1, .int pc), (bo, 2, 0, .ref pa), (r0, 13, 3, .ref ou), (r0, 13, 2, .ref js), (js, 6, 7, .int pv), (js, 6, 8, .int pu), (js, 6, 0, .ref wk), (js, 6, 1, .ref wi), (js, 6, 2, .ref wz), (js, 6, 4, .ref jkf), (js, 6, 5, .ref jks), (r0, 13, 1, .ref fm), (fm, 4, 1, .int fl), (r0, 13, 7, .ref op), (op, 1, 2, .int sz)]) [0, 1, 2, 3, 4, 5, 6, 7, 8, 9, 10, 11, 12, 13, 14, 15] rfl rfl (M1 := [(wk, 140, 1502, ca 1, fk), (wi, 141, 1502, ca 1, fi), (wz, 142, 1502, ca 1, fz), (jkf, 144, 1502, ca 1, fa), (jks, 145, 1502, ca 1, fs)]) [0, 1, 2, 3, 4] rfl rfl (I1 := [([(2, 0), (2, 1)], jOl (dC, dI) G0 2 [bo, ou] s.heap), (jFy, jYb dC dI G0), (jFl, jLs dC dI ca G0 3 none), (jFdo, jDcc dC dI ca G0 none ph)]) [0, 1, 2, 3] rfl rfl).more hb_25)
  clear hh_1 ht_2 hvm_2 hz_2 hk_2 hS_2 hb_21 hb_22 hb_23 hb_24 hb_25
  obtain ⟨hr_3_0, hr_3_1, hr_3_2⟩ := hr_3
  have hr_3_2o := jOr.of hr_3_2
  clear hr_3_2
  have hr_3_2 := hr_3_2o
  clear hr_3_2o
  refine lv_istore_n (lv' := [(1, .int r_3), (0, .ref r0)]) hx hb dX11_changeDocument_11 rfl hl (by decide) rfl (fun ls hl => ?_)
  refine lv_aload_n hx hb dX11_changeDocument_12 rfl (lv_at hl 1 rfl) ?_
  refine j7_read hx hb hown hK (C := RX11) (T := TX11) (N := 19) rfl hly_13_2 hlk_28 (hh_2.at 4 rfl) dX11_changeDocument_13 ?_
  refine lv_aload_n hx hb dX11_changeDocument_16 rfl (lv_at hl 1 rfl) ?_
  refine j7_read hx hb hown hK (C := RX11) (T := TX11) (N := 19) rfl hly_13_2 hlk_28 (hh_2.at 4 rfl) dX11_changeDocument_17 ?_
  refine lv_iload_n hx hb dX11_changeDocument_20 rfl (lv_at hl 0 rfl) ?_
  refine j_ldcSw hx hb hown rstr344 dX11_changeDocument_21 ?_
  try clear hsz_2 htt_2 hrc_2 hrs_2
  have hsz_4 := hh_2.2.2.2.2.2.1
  have htt_4 := hh_2.2.2.2.2.2.2.1
  refine W.room (fun hrc_4 hrs_4 => ?_)
  refine va_calli (A0 := jA base) (H0 := s.heap) (va_runV (As := [.int r_3, .ref str344]) (rest := [.ref js]) ⟨hx, hb, hml, hown, hts⟩ (uX4_memberQ l dC dI ca base B hB hAp hB6 hB140 hB141 hB142 hB143 hB144 hB145 hB146 G0 H_2 js r_3 str344 12 pv wk wi wz jks fk fi fz fs) (cwV 2 hts (jgV (jWr_23 _ (List.mem_of_getElem? (i := 10) rfl)) (jWr_23 _ (List.mem_of_getElem? (i := 11) rfl)) (jWr_23 _ (List.mem_of_getElem? (i := 12) rfl)) (jWr_1 _ (List.mem_of_getElem? (i := 22) rfl)) (jWr_23 _ (List.mem_of_getElem? (i := 13) rfl))) rfl rfl rfl (by decide +kernel) ⟨by rw [← hR]; exact Nat.le_of_ble_eq_true rfl, by rw [← hR]; exact Nat.le_of_ble_eq_true rfl⟩) ⟨fun a U g mk q => by obtain ⟨q0, q1, q2, qK, q10, q11, q12, q13, q14, q15, q16, q17, q18⟩ := q; exact ⟨q0, q1, q2, jG.calling g mk a qK, (q10.moved (Vm.Alike.refl U.vm)), q11, q12, q13, q14, q15, q16, q17, q18⟩, hh_2.recv (C := RX4) (T := TX4) (N := 12) hB6 rfl (by decide) hg_js hK, fun U hU hW => ⟨rfl, hU, hh_2.2.1, hG.step hW hU hh_2.1, (hstr344.moved hW.alike).kept hh_2.1.2.1, hg_js, hg_wk, hg_wi, hg_wz, hg_jks, (hh_2.2.2.1.sub (L1 := [(js, 6, 7, .int pv), (js, 6, 0, .ref wk), (js, 6, 1, .ref wi), (js, 6, 2, .ref wz), (js, 6, 5, .ref jks)]) [5, 7, 8, 9, 11] rfl), (hh_2.2.2.2.2.2.2.2.1.sub (L1 := [(wk, 140, 1502, ca 1, fk), (wi, 141, 1502, ca 1, fi), (wz, 142, 1502, ca 1, fz), (jks, 145, 1502, ca 1, fs)]) [0, 1, 2, 4] rfl), ⟨(by first | (with_reducible assumption) | omega | rfl | fail), (by first | (with_reducible assumption) | omega | rfl | fail), (by first | (with_reducible assumption) | omega | rfl | fail)⟩⟩⟩ rfl rfl hl.1 rfl (lv_room (Nat.le_of_ble_eq_true rfl)) dX11_changeDocument_24 ⟨by rw [hRc]; show _ + 0 ≤ _; omega, by rw [hRs]; show _ + 0 ≤ _; omega⟩) hh_2.1 (fun q _ h => h) (fun q h => h) (fun r_5 u_4 t_4 H_4 locs_4 ht_4 hvm_4 hr_5 hb_4 hz_4 hk_4 hS_4 => ?_)
  rw [ht_4] at hb_4
  obtain ⟨hb_4, hbF_4⟩ := hb_4
  obtain ⟨hb_41, hb_42, hb_43, hb_44, hb_45⟩ := hb_4
  have hh_4 : jSt (dC, dI) B base G0 G0 EX11_changeDocument s.heap 0 0 [(r0, 13, 4, .ref bo), (bo, 2, 1, .int pc), (bo, 2, 0, .ref pa), (r0, 13, 3, .ref ou), (r0, 13, 2, .ref js), (js, 6, 7, .int pv), (js, 6, 8, .int pu), (js, 6, 0, .ref wk), (js, 6, 1, .ref wi), (js, 6, 2, .ref wz), (js, 6, 4, .ref jkf), (js, 6, 5, .ref jks), (r0, 13, 1, .ref fm), (fm, 4, 1, .int fl), (r0, 13, 7, .ref op), (op, 1, 2, .int sz)] [(wk, 140, 1502, ca 1, fk), (wi, 141, 1502, ca 1, fi), (wz, 142, 1502, ca 1, fz), (jkf, 144, 1502, ca 1, fa), (jks, 145, 1502, ca 1, fs)] [([(2, 0), (2, 1)], jOl (dC, dI) G0 2 [bo, ou] s.heap), (jFy, jYb dC dI G0), (jFl, jLs dC dI ca G0 3 none), (jFdo, jDcc dC dI ca G0 none ph)] H_4 locs_4 := ((hh_2.call hb_41 hb_42 hb_43 hb_44 hS_4 rfl (L1 := [(r0, 13, 4, .ref bo), (bo, 2, 1, .int pc), (bo, 2, 0, .ref pa), (r0, 13, 3, .ref ou), (r0, 13, 2, .ref js), (js, 6, 7, .int pv), (js, 6, 8, .int pu), (js, 6, 0, .ref wk), (js, 6, 1, .ref wi), (js, 6, 2, .ref wz), (js, 6, 4, .ref jkf), (js, 6, 5, .ref jks), (r0, 13, 1, .ref fm), (fm, 4, 1, .int fl), (r0, 13, 7, .ref op), (op, 1, 2, .int sz)]) [0, 1, 2, 3, 4, 5, 6, 7, 8, 9, 10, 11, 12, 13, 14, 15] rfl rfl (M1 := [(wk, 140, 1502, ca 1, fk), (wi, 141, 1502, ca 1, fi), (wz, 142, 1502, ca 1, fz), (jkf, 144, 1502, ca 1, fa), (jks, 145, 1502, ca 1, fs)]) [0, 1, 2, 3, 4] rfl rfl (I1 := [([(2, 0), (2, 1)], jOl (dC, dI) G0 2 [bo, ou] s.heap), (jFy, jYb dC dI G0), (jFl, jLs dC dI ca G0 3 none), (jFdo, jDcc dC dI ca G0 none ph)]) [0, 1, 2, 3] rfl rfl).more hb_45)
  clear hh_2 ht_4 hvm_4 hz_4 hk_4 hS_4 hb_41 hb_42 hb_43 hb_44 hb_45
  obtain ⟨hr_5_0, hr_5_1, hr_5_2⟩ := hr_5
  have hr_5_2o := jOr.of hr_5_2
  clear hr_5_2
  have hr_5_2 := hr_5_2o
  clear hr_5_2o
  refine j_ldcSw hx hb hown rstr354 dX11_changeDocument_27 ?_
  try clear hsz_4 htt_4 hrc_4 hrs_4
  have hsz_6 := hh_4.2.2.2.2.2.1
  have htt_6 := hh_4.2.2.2.2.2.2.1
  refine W.room (fun hrc_6 hrs_6 => ?_)
  refine va_calli (A0 := jA base) (H0 := s.heap) (va_runV (As := [.int r_5, .ref str354]) (rest := []) ⟨hx, hb, hml, hown, hts⟩ (uX4_memberQ l dC dI ca base B hB hAp hB6 hB140 hB141 hB142 hB143 hB144 hB145 hB146 G0 H_4 js r_5 str354 7 pv wk wi wz jks fk fi fz fs) (cwV 2 hts (jgV (jWr_23 _ (List.mem_of_getElem? (i := 10) rfl)) (jWr_23 _ (List.mem_of_getElem? (i := 11) rfl)) (jWr_23 _ (List.mem_of_getElem? (i := 12) rfl)) (jWr_1 _ (List.mem_of_getElem? (i := 22) rfl)) (jWr_23 _ (List.mem_of_getElem? (i := 13) rfl))) rfl rfl rfl (by decide +kernel) ⟨by rw [← hR]; exact Nat.le_of_ble_eq_true rfl, by rw [← hR]; exact Nat.le_of_ble_eq_true rfl⟩) ⟨fun a U g mk q => by obtain ⟨q0, q1, q2, qK, q10, q11, q12, q13, q14, q15, q16, q17, q18⟩ := q; exact ⟨q0, q1, q2, jG.calling g mk a qK, (q10.moved (Vm.Alike.refl U.vm)), q11, q12, q13, q14, q15, q16, q17, q18⟩, hh_4.recv (C := RX4) (T := TX4) (N := 12) hB6 rfl (by decide) hg_js hK, fun U hU hW => ⟨rfl, hU, hh_4.2.1, hG.step hW hU hh_4.1, (hstr354.moved hW.alike).kept hh_4.1.2.1, hg_js, hg_wk, hg_wi, hg_wz, hg_jks, (hh_4.2.2.1.sub (L1 := [(js, 6, 7, .int pv), (js, 6, 0, .ref wk), (js, 6, 1, .ref wi), (js, 6, 2, .ref wz), (js, 6, 5, .ref jks)]) [5, 7, 8, 9, 11] rfl), (hh_4.2.2.2.2.2.2.2.1.sub (L1 := [(wk, 140, 1502, ca 1, fk), (wi, 141, 1502, ca 1, fi), (wz, 142, 1502, ca 1, fz), (jks, 145, 1502, ca 1, fs)]) [0, 1, 2, 4] rfl), ⟨(by first | (with_reducible assumption) | omega | rfl | fail), (by first | (with_reducible assumption) | omega | rfl | fail), (by first | (with_reducible assumption) | omega | rfl | fail)⟩⟩⟩ rfl rfl hl.1 rfl (lv_room (Nat.le_of_ble_eq_true rfl)) dX11_changeDocument_30 ⟨by rw [hRc]; show _ + 0 ≤ _; omega, by rw [hRs]; show _ + 0 ≤ _; omega⟩) hh_4.1 (fun q _ h => h) (fun q h => h) (fun r_7 u_6 t_6 H_6 locs_6 ht_6 hvm_6 hr_7 hb_6 hz_6 hk_6 hS_6 => ?_)
  rw [ht_6] at hb_6
  obtain ⟨hb_6, hbF_6⟩ := hb_6
  obtain ⟨hb_61, hb_62, hb_63, hb_64, hb_65⟩ := hb_6
  have hh_6 : jSt (dC, dI) B base G0 G0 EX11_changeDocument s.heap 0 0 [(r0, 13, 4, .ref bo), (bo, 2, 1, .int pc), (bo, 2, 0, .ref pa), (r0, 13, 3, .ref ou), (r0, 13, 2, .ref js), (js, 6, 7, .int pv), (js, 6, 8, .int pu), (js, 6, 0, .ref wk), (js, 6, 1, .ref wi), (js, 6, 2, .ref wz), (js, 6, 4, .ref jkf), (js, 6, 5, .ref jks), (r0, 13, 1, .ref fm), (fm, 4, 1, .int fl), (r0, 13, 7, .ref op), (op, 1, 2, .int sz)] [(wk, 140, 1502, ca 1, fk), (wi, 141, 1502, ca 1, fi), (wz, 142, 1502, ca 1, fz), (jkf, 144, 1502, ca 1, fa), (jks, 145, 1502, ca 1, fs)] [([(2, 0), (2, 1)], jOl (dC, dI) G0 2 [bo, ou] s.heap), (jFy, jYb dC dI G0), (jFl, jLs dC dI ca G0 3 none), (jFdo, jDcc dC dI ca G0 none ph)] H_6 locs_6 := ((hh_4.call hb_61 hb_62 hb_63 hb_64 hS_6 rfl (L1 := [(r0, 13, 4, .ref bo), (bo, 2, 1, .int pc), (bo, 2, 0, .ref pa), (r0, 13, 3, .ref ou), (r0, 13, 2, .ref js), (js, 6, 7, .int pv), (js, 6, 8, .int pu), (js, 6, 0, .ref wk), (js, 6, 1, .ref wi), (js, 6, 2, .ref wz), (js, 6, 4, .ref jkf), (js, 6, 5, .ref jks), (r0, 13, 1, .ref fm), (fm, 4, 1, .int fl), (r0, 13, 7, .ref op), (op, 1, 2, .int sz)]) [0, 1, 2, 3, 4, 5, 6, 7, 8, 9, 10, 11, 12, 13, 14, 15] rfl rfl (M1 := [(wk, 140, 1502, ca 1, fk), (wi, 141, 1502, ca 1, fi), (wz, 142, 1502, ca 1, fz), (jkf, 144, 1502, ca 1, fa), (jks, 145, 1502, ca 1, fs)]) [0, 1, 2, 3, 4] rfl rfl (I1 := [([(2, 0), (2, 1)], jOl (dC, dI) G0 2 [bo, ou] s.heap), (jFy, jYb dC dI G0), (jFl, jLs dC dI ca G0 3 none), (jFdo, jDcc dC dI ca G0 none ph)]) [0, 1, 2, 3] rfl rfl).more hb_65)
  clear hh_4 ht_6 hvm_6 hz_6 hk_6 hS_6 hb_61 hb_62 hb_63 hb_64 hb_65
  obtain ⟨hr_7_0, hr_7_1, hr_7_2⟩ := hr_7
  have hr_7_2o := jOr.of hr_7_2
  clear hr_7_2
  have hr_7_2 := hr_7_2o
  clear hr_7_2o
  refine lv_istore_n (lv' := [(2, .int r_7), (1, .int r_3), (0, .ref r0)]) hx hb dX11_changeDocument_33 rfl hl (by decide) rfl (fun ls hl => ?_)
  refine lv_aload_n hx hb dX11_changeDocument_34 rfl (lv_at hl 2 rfl) ?_
  refine j7_read hx hb hown hK (C := RX11) (T := TX11) (N := 19) rfl hly_13_2 hlk_28 (hh_6.at 4 rfl) dX11_changeDocument_35 ?_
  refine lv_iload_n hx hb dX11_changeDocument_38 rfl (lv_at hl 1 rfl) ?_
  refine j_ldcSw hx hb hown rstr382 dX11_changeDocument_39 ?_
  try clear hsz_6 htt_6 hrc_6 hrs_6
  have hsz_8 := hh_6.2.2.2.2.2.1
  have htt_8 := hh_6.2.2.2.2.2.2.1
  refine W.room (fun hrc_8 hrs_8 => ?_)
  refine va_calli (A0 := jA base) (H0 := s.heap) (va_runV (As := [.int r_3, .ref str382]) (rest := []) ⟨hx, hb, hml, hown, hts⟩ (uX4_memberQ l dC dI ca base B hB hAp hB6 hB140 hB141 hB142 hB143 hB144 hB145 hB146 G0 H_6 js r_3 str382 14 pv wk wi wz jks fk fi fz fs) (cwV 2 hts (jgV (jWr_23 _ (List.mem_of_getElem? (i := 10) rfl)) (jWr_23 _ (List.mem_of_getElem? (i := 11) rfl)) (jWr_23 _ (List.mem_of_getElem? (i := 12) rfl)) (jWr_1 _ (List.mem_of_getElem? (i := 22) rfl)) (jWr_23 _ (List.mem_of_getElem? (i := 13) rfl))) rfl rfl rfl (by decide +kernel) ⟨by rw [← hR]; exact Nat.le_of_ble_eq_true rfl, by rw [← hR]; exact Nat.le_of_ble_eq_true rfl⟩) ⟨fun a U g mk q => by obtain ⟨q0, q1, q2, qK, q10, q11, q12, q13, q14, q15, q16, q17, q18⟩ := q; exact ⟨q0, q1, q2, jG.calling g mk a qK, (q10.moved (Vm.Alike.refl U.vm)), q11, q12, q13, q14, q15, q16, q17, q18⟩, hh_6.recv (C := RX4) (T := TX4) (N := 12) hB6 rfl (by decide) hg_js hK, fun U hU hW => ⟨rfl, hU, hh_6.2.1, hG.step hW hU hh_6.1, (hstr382.moved hW.alike).kept hh_6.1.2.1, hg_js, hg_wk, hg_wi, hg_wz, hg_jks, (hh_6.2.2.1.sub (L1 := [(js, 6, 7, .int pv), (js, 6, 0, .ref wk), (js, 6, 1, .ref wi), (js, 6, 2, .ref wz), (js, 6, 5, .ref jks)]) [5, 7, 8, 9, 11] rfl), (hh_6.2.2.2.2.2.2.2.1.sub (L1 := [(wk, 140, 1502, ca 1, fk), (wi, 141, 1502, ca 1, fi), (wz, 142, 1502, ca 1, fz), (jks, 145, 1502, ca 1, fs)]) [0, 1, 2, 4] rfl), ⟨(by first | (with_reducible assumption) | omega | rfl | fail), (by first | (with_reducible assumption) | omega | rfl | fail), (by first | (with_reducible assumption) | omega | rfl | fail)⟩⟩⟩ rfl rfl hl.1 rfl (lv_room (Nat.le_of_ble_eq_true rfl)) dX11_changeDocument_42 ⟨by rw [hRc]; show _ + 0 ≤ _; omega, by rw [hRs]; show _ + 0 ≤ _; omega⟩) hh_6.1 (fun q _ h => h) (fun q h => h) (fun r_9 u_8 t_8 H_8 locs_8 ht_8 hvm_8 hr_9 hb_8 hz_8 hk_8 hS_8 => ?_)
  rw [ht_8] at hb_8
  obtain ⟨hb_8, hbF_8⟩ := hb_8
  obtain ⟨hb_81, hb_82, hb_83, hb_84, hb_85⟩ := hb_8
  have hh_8 : jSt (dC, dI) B base G0 G0 EX11_changeDocument s.heap 0 0 [(r0, 13, 4, .ref bo), (bo, 2, 1, .int pc), (bo, 2, 0, .ref pa), (r0, 13, 3, .ref ou), (r0, 13, 2, .ref js), (js, 6, 7, .int pv), (js, 6, 8, .int pu), (js, 6, 0, .ref wk), (js, 6, 1, .ref wi), (js, 6, 2, .ref wz), (js, 6, 4, .ref jkf), (js, 6, 5, .ref jks), (r0, 13, 1, .ref fm), (fm, 4, 1, .int fl), (r0, 13, 7, .ref op), (op, 1, 2, .int sz)] [(wk, 140, 1502, ca 1, fk), (wi, 141, 1502, ca 1, fi), (wz, 142, 1502, ca 1, fz), (jkf, 144, 1502, ca 1, fa), (jks, 145, 1502, ca 1, fs)] [([(2, 0), (2, 1)], jOl (dC, dI) G0 2 [bo, ou] s.heap), (jFy, jYb dC dI G0), (jFl, jLs dC dI ca G0 3 none), (jFdo, jDcc dC dI ca G0 none ph)] H_8 locs_8 := ((hh_6.call hb_81 hb_82 hb_83 hb_84 hS_8 rfl (L1 := [(r0, 13, 4, .ref bo), (bo, 2, 1, .int pc), (bo, 2, 0, .ref pa), (r0, 13, 3, .ref ou), (r0, 13, 2, .ref js), (js, 6, 7, .int pv), (js, 6, 8, .int pu), (js, 6, 0, .ref wk), (js, 6, 1, .ref wi), (js, 6, 2, .ref wz), (js, 6, 4, .ref jkf), (js, 6, 5, .ref jks), (r0, 13, 1, .ref fm), (fm, 4, 1, .int fl), (r0, 13, 7, .ref op), (op, 1, 2, .int sz)]) [0, 1, 2, 3, 4, 5, 6, 7, 8, 9, 10, 11, 12, 13, 14, 15] rfl rfl (M1 := [(wk, 140, 1502, ca 1, fk), (wi, 141, 1502, ca 1, fi), (wz, 142, 1502, ca 1, fz), (jkf, 144, 1502, ca 1, fa), (jks, 145, 1502, ca 1, fs)]) [0, 1, 2, 3, 4] rfl rfl (I1 := [([(2, 0), (2, 1)], jOl (dC, dI) G0 2 [bo, ou] s.heap), (jFy, jYb dC dI G0), (jFl, jLs dC dI ca G0 3 none), (jFdo, jDcc dC dI ca G0 none ph)]) [0, 1, 2, 3] rfl rfl).more hb_85)
  clear hh_6 ht_8 hvm_8 hz_8 hk_8 hS_8 hb_81 hb_82 hb_83 hb_84 hb_85
  obtain ⟨hr_9_0, hr_9_1, hr_9_2⟩ := hr_9
  have hr_9_2o := jOr.of hr_9_2
  clear hr_9_2
  have hr_9_2 := hr_9_2o
  clear hr_9_2o
  refine lv_istore_n (lv' := [(3, .int r_9), (2, .int r_7), (1, .int r_3), (0, .ref r0)]) hx hb dX11_changeDocument_45 rfl hl (by decide) rfl (fun ls hl => ?_)
  refine lv_aload_n hx hb dX11_changeDocument_46 rfl (lv_at hl 3 rfl) ?_
  try clear hsz_8 htt_8 hrc_8 hrs_8
  have hsz_10 := hh_8.2.2.2.2.2.1
  have htt_10 := hh_8.2.2.2.2.2.2.1
  refine W.room (fun hrc_10 hrs_10 => ?_)
  refine j_callx (A0 := jA base) (H0 := s.heap) (va_runV (As := []) (rest := []) ⟨hx, hb, hml, hown, hts⟩ (uX11_addressedQ l dC dI ca base B hB hAp hB1 hB3 hB6 hB13 hB101 hB140 hB141 hB142 hB143 hB144 hB145 hB146 hB221 G0 H_8 r0 js pv pu wk wi wz jks fk fi fz fs) (cwV 0 hts (jgV (jWr_27 _ (List.mem_of_getElem? (i := 16) rfl)) (jWr_27 _ (List.mem_of_getElem? (i := 17) rfl)) (jWr_27 _ (List.mem_of_getElem? (i := 18) rfl)) (jWr_1 _ (List.mem_of_getElem? (i := 2) rfl)) (jWr_27 _ (List.mem_of_getElem? (i := 19) rfl))) rfl rfl rfl (by decide +kernel) ⟨by rw [← hR]; exact Nat.le_of_ble_eq_true rfl, by rw [← hR]; exact Nat.le_of_ble_eq_true rfl⟩) ⟨fun a U g mk q => by obtain ⟨q0, q1, q2, qK, q10, q11, q12, q13, q14, q15, q16, q17, q18, q19, q20⟩ := q; exact ⟨q0, q1, q2, jG.calling g mk a qK, (jK7.calling g mk a q10), q11, q12, q13, q14, q15, q16, q17, q18, q19, q20⟩, hh_8.recv (C := RX11) (T := TX11) (N := 19) hB13 rfl (by decide) hg_r0 hK, fun U hU hW => ⟨rfl, hU, hh_8.2.1, hG.step hW hU hh_8.1, (hK7.step hW hU hh_8.1), hg_r0, hg_js, hg_wk, hg_wi, hg_wz, hg_jks, (hh_8.2.2.1.sub (L1 := [(r0, 13, 2, .ref js), (js, 6, 7, .int pv), (js, 6, 8, .int pu), (js, 6, 0, .ref wk), (js, 6, 1, .ref wi), (js, 6, 2, .ref wz), (js, 6, 5, .ref jks)]) [4, 5, 6, 7, 8, 9, 11] rfl), (hh_8.2.2.2.2.2.2.2.1.sub (L1 := [(wk, 140, 1502, ca 1, fk), (wi, 141, 1502, ca 1, fi), (wz, 142, 1502, ca 1, fz), (jks, 145, 1502, ca 1, fs)]) [0, 1, 2, 4] rfl), (hh_8.2.2.2.2.2.2.2.2.sub (L1 := [(jFl, jLs dC dI ca G0 3 none)]) [2] rfl), ⟨(by first | (with_reducible assumption) | omega | rfl | fail), (by first | (with_reducible assumption) | omega | rfl | fail), (by first | (with_reducible assumption) | omega | rfl | fail), (by first | (with_reducible assumption) | omega | rfl | fail), (by first | assumption | fail | omega), (by first | assumption | fail | omega)⟩⟩⟩ rfl rfl hl.1 rfl (lv_room (Nat.le_of_ble_eq_true rfl)) dX11_changeDocument_47 ⟨by rw [hRc]; show _ + 0 ≤ _; omega, by rw [hRs]; show _ + 0 ≤ _; omega⟩) hh_8.1 (fun q _ h => h) (fun q h => h) (fun r_11 u_10 t_10 H_10 locs_10 ht_10 hvm_10 hr_11 hb_10 hz_10 hk_10 hS_10 => ?_)
  rw [ht_10] at hb_10
  obtain ⟨hb_10, hbE_10⟩ := hb_10
  obtain ⟨hb_101, hb_102, hb_103, hb_104, hb_105⟩ := hb_10
  have hh_10 : jSt (dC, dI) B base G0 G0 EX11_changeDocument s.heap 0 0 [(r0, 13, 4, .ref bo), (bo, 2, 1, .int pc), (bo, 2, 0, .ref pa), (r0, 13, 3, .ref ou), (r0, 13, 2, .ref js), (js, 6, 7, .int pv), (js, 6, 8, .int pu), (js, 6, 0, .ref wk), (js, 6, 1, .ref wi), (js, 6, 2, .ref wz), (js, 6, 4, .ref jkf), (js, 6, 5, .ref jks), (r0, 13, 1, .ref fm), (fm, 4, 1, .int fl), (r0, 13, 7, .ref op), (op, 1, 2, .int sz)] [(wk, 140, 1502, ca 1, fk), (wi, 141, 1502, ca 1, fi), (wz, 142, 1502, ca 1, fz), (jkf, 144, 1502, ca 1, fa), (jks, 145, 1502, ca 1, fs)] [(jFl, jLs dC dI ca G0 3 none), ([(2, 0), (2, 1)], jOl (dC, dI) G0 2 [bo, ou] s.heap), (jFy, jYb dC dI G0), (jFdo, jDcc dC dI ca G0 none ph)] H_10 locs_10 := (((hh_8.call hb_101 hb_102 hb_103 hb_104 hS_10 rfl (L1 := [(r0, 13, 4, .ref bo), (bo, 2, 1, .int pc), (bo, 2, 0, .ref pa), (r0, 13, 3, .ref ou), (r0, 13, 2, .ref js), (js, 6, 7, .int pv), (js, 6, 8, .int pu), (js, 6, 0, .ref wk), (js, 6, 1, .ref wi), (js, 6, 2, .ref wz), (js, 6, 4, .ref jkf), (js, 6, 5, .ref jks), (r0, 13, 1, .ref fm), (fm, 4, 1, .int fl), (r0, 13, 7, .ref op), (op, 1, 2, .int sz)]) [0, 1, 2, 3, 4, 5, 6, 7, 8, 9, 10, 11, 12, 13, 14, 15] rfl rfl (M1 := [(wk, 140, 1502, ca 1, fk), (wi, 141, 1502, ca 1, fi), (wz, 142, 1502, ca 1, fz), (jkf, 144, 1502, ca 1, fa), (jks, 145, 1502, ca 1, fs)]) [0, 1, 2, 3, 4] rfl rfl (I1 := [([(2, 0), (2, 1)], jOl (dC, dI) G0 2 [bo, ou] s.heap), (jFy, jYb dC dI G0), (jFdo, jDcc dC dI ca G0 none ph)]) [0, 1, 3] rfl rfl).more hb_105)).addIs hbE_10
  clear hh_8 ht_10 hvm_10 hz_10 hk_10 hS_10 hb_101 hb_102 hb_103 hb_104 hb_105
  clear  hbE_10
  obtain ⟨hr_11, hr_11p⟩ := hr_11
  rcases hr_11 with rfl | ⟨ret_12, rfl, hg_ret_12⟩
  · skip
    refine j7_nst (lv' := [(4, .null), (3, .int r_9), (2, .int r_7), (1, .int r_3), (0, .ref r0)]) hx hb dX11_changeDocument_50 hl (by decide) rfl (fun ls hl => ?_)
    refine j7_nld hx hb dX11_changeDocument_52 (lv_at hl 0 rfl) ?_
    refine lv_ifnullN (tgt := 122) hx hb dX11_changeDocument_54 (by decide) ?_
    try clear hsz_10 htt_10 hrc_10 hrs_10
    have hsz_13 := hh_10.2.2.2.2.2.1
    have htt_13 := hh_10.2.2.2.2.2.2.1
    refine W.room (fun hrc_13 hrs_13 => ?_)
    refine W.widen (k := LC - s.heap.size) (n := LS - jTot s.heap) (by omega) (by omega) ?_
    rw [hQ]
    exact W.vret hx hb hr (fun t ht hW => ⟨⟨(pc, pa, n_pa, ph, G0), rfl, by (try dsimp only); exact ⟨(by first | (with_reducible assumption) | omega | rfl | fail), (by first | (with_reducible assumption) | omega | rfl | fail), (by first | (with_reducible assumption) | omega | rfl | fail), (by first | (with_reducible assumption) | omega | rfl | fail), (by first | assumption | fail | omega), (by first | (with_reducible assumption) | omega | rfl | fail)⟩, ⟨hh_10.ra (by first | (simp only; omega) | omega) (by first | (simp only; omega) | omega) (M1 := [(bo, 2, 1, .int pc), (bo, 2, 0, .ref pa)]) [1, 2] rfl ht, hg_pa, jNk.rf, by rw [ht]; exact hh_10.iv 1 rfl, by rw [ht]; exact hh_10.2.2.2.2.2.2.2.2.sub (L1 := [(jFy, jYb dC dI G0), (jFl, jLs dC dI ca G0 3 none), (jFdo, jDcc dC dI ca G0 none ph)]) [2, 0, 3] rfl⟩⟩, by rw [ht]; try exact hh_10.1.1, fun q h9 hq => by rw [ht]; try exact hh_10.1.2.1 q h9 hq⟩) hh_10.1.2.2 dX11_changeDocument_122
  · skip
    refine lv_astore (lv' := [(4, .ref ret_12), (3, .int r_9), (2, .int r_7), (1, .int r_3), (0, .ref r0)]) hx hb dX11_changeDocument_50 hl (by decide) rfl (fun ls hl => ?_)
    refine lv_aload hx hb dX11_changeDocument_52 (lv_at hl 0 rfl) ?_
    refine lv_ifnull hx hb dX11_changeDocument_54 ?_
    obtain ⟨ux, ux0, ux1, ux2, ux3⟩ := jNnl hr_11p
    refine lv_aload_n hx hb dX11_changeDocument_57 rfl (lv_at hl 4 rfl) ?_
    refine j7_read hx hb hown hK (C := RX11) (T := TX11) (N := 19) rfl hly_13_2 hlk_28 (hh_10.at 4 rfl) dX11_changeDocument_58 ?_
    refine lv_iload_n hx hb dX11_changeDocument_61 rfl (lv_at hl 2 rfl) ?_
    try clear hsz_10 htt_10 hrc_10 hrs_10
    have hsz_14 := hh_10.2.2.2.2.2.1
    have htt_14 := hh_10.2.2.2.2.2.2.1
    refine W.room (fun hrc_14 hrs_14 => ?_)
    refine va_calli (A0 := jA base) (H0 := s.heap) (va_runV (As := [.int r_7]) (rest := []) ⟨hx, hb, hml, hown, hts⟩ (uX4_kindOfW l dC dI ca base B hB hAp hB6 hB140 G0 H_10 js r_7 pv wk wi wz fk fi fz) (cwV 1 hts (jgV (jWr_27 _ (List.mem_of_getElem? (i := 5) rfl)) (jWr_23 _ (List.mem_of_getElem? (i := 15) rfl)) (jWr_23 _ (List.mem_of_getElem? (i := 16) rfl)) (jWr_1 _ (List.mem_of_getElem? (i := 22) rfl)) (jWr_23 _ (List.mem_of_getElem? (i := 17) rfl))) rfl rfl rfl (by decide +kernel) ⟨by rw [← hR]; exact Nat.le_of_ble_eq_true rfl, by rw [← hR]; exact Nat.le_of_ble_eq_true rfl⟩) ⟨fun a U g mk q => by obtain ⟨q0, q1, q2, qK, q10, q11, q12, q13, q14, q15, q16⟩ := q; exact ⟨q0, q1, q2, jG.calling g mk a qK, q10, q11, q12, q13, q14, q15, q16⟩, hh_10.recv (C := RX4) (T := TX4) (N := 12) hB6 rfl (by decide) hg_js hK, fun U hU hW => ⟨rfl, hU, hh_10.2.1, hG.step hW hU hh_10.1, hg_js, hg_wk, hg_wi, hg_wz, (hh_10.2.2.1.sub (L1 := [(js, 6, 7, .int pv), (js, 6, 0, .ref wk), (js, 6, 1, .ref wi), (js, 6, 2, .ref wz)]) [5, 7, 8, 9] rfl), (hh_10.2.2.2.2.2.2.2.1.sub (L1 := [(wk, 140, 1502, ca 1, fk), (wi, 141, 1502, ca 1, fi), (wz, 142, 1502, ca 1, fz)]) [0, 1, 2] rfl), ⟨(by first | (with_reducible assumption) | omega | rfl | fail), (by first | (with_reducible assumption) | omega | rfl | fail)⟩⟩⟩ rfl rfl hl.1 rfl (lv_room (Nat.le_of_ble_eq_true rfl)) dX11_changeDocument_62 ⟨by rw [hRc]; show _ + 0 ≤ _; omega, by rw [hRs]; show _ + 0 ≤ _; omega⟩) hh_10.1 (fun q _ h => h) (fun q h => h) (fun r_15 u_14 t_14 H_14 locs_14 ht_14 hvm_14 hr_15 hb_14 hz_14 hk_14 hS_14 => ?_)
    rw [ht_14] at hb_14
    obtain ⟨hb_14, hbF_14⟩ := hb_14
    obtain ⟨hb_141, hb_142, hb_143, hb_144, hb_145⟩ := hb_14
    have hh_14 : jSt (dC, dI) B base G0 G0 EX11_changeDocument s.heap 0 0 [(r0, 13, 4, .ref bo), (bo, 2, 1, .int pc), (bo, 2, 0, .ref pa), (r0, 13, 3, .ref ou), (r0, 13, 2, .ref js), (js, 6, 7, .int pv), (js, 6, 8, .int pu), (js, 6, 0, .ref wk), (js, 6, 1, .ref wi), (js, 6, 2, .ref wz), (js, 6, 4, .ref jkf), (js, 6, 5, .ref jks), (r0, 13, 1, .ref fm), (fm, 4, 1, .int fl), (r0, 13, 7, .ref op), (op, 1, 2, .int sz)] [(wk, 140, 1502, ca 1, fk), (wi, 141, 1502, ca 1, fi), (wz, 142, 1502, ca 1, fz), (jkf, 144, 1502, ca 1, fa), (jks, 145, 1502, ca 1, fs)] [(jFl, jLs dC dI ca G0 3 none), ([(2, 0), (2, 1)], jOl (dC, dI) G0 2 [bo, ou] s.heap), (jFy, jYb dC dI G0), (jFdo, jDcc dC dI ca G0 none ph)] H_14 locs_14 := ((hh_10.call hb_141 hb_142 hb_143 hb_144 hS_14 rfl (L1 := [(r0, 13, 4, .ref bo), (bo, 2, 1, .int pc), (bo, 2, 0, .ref pa), (r0, 13, 3, .ref ou), (r0, 13, 2, .ref js), (js, 6, 7, .int pv), (js, 6, 8, .int pu), (js, 6, 0, .ref wk), (js, 6, 1, .ref wi), (js, 6, 2, .ref wz), (js, 6, 4, .ref jkf), (js, 6, 5, .ref jks), (r0, 13, 1, .ref fm), (fm, 4, 1, .int fl), (r0, 13, 7, .ref op), (op, 1, 2, .int sz)]) [0, 1, 2, 3, 4, 5, 6, 7, 8, 9, 10, 11, 12, 13, 14, 15] rfl rfl (M1 := [(wk, 140, 1502, ca 1, fk), (wi, 141, 1502, ca 1, fi), (wz, 142, 1502, ca 1, fz), (jkf, 144, 1502, ca 1, fa), (jks, 145, 1502, ca 1, fs)]) [0, 1, 2, 3, 4] rfl rfl (I1 := [(jFl, jLs dC dI ca G0 3 none), ([(2, 0), (2, 1)], jOl (dC, dI) G0 2 [bo, ou] s.heap), (jFy, jYb dC dI G0), (jFdo, jDcc dC dI ca G0 none ph)]) [0, 1, 2, 3] rfl rfl).more hb_145)
    clear hh_10 ht_14 hvm_14 hz_14 hk_14 hS_14 hb_141 hb_142 hb_143 hb_144 hb_145
    have hr_15o := jOr.of hr_15
    clear hr_15
    have hr_15 := hr_15o
    clear hr_15o
    refine lv_iconst (v := 4) hx hb dX11_changeDocument_65 (by decide) ?_
    refine lv_icmp_ne (tgt := 122) hx hb dX11_changeDocument_66 (by decide) (fun c_16 => ?_) (fun c_16 => ?_)
    · skip
      have c_16' : r_15.toInt ≠ 4 := jb_ne (rfl) ((by decide)) c_16
      try clear hr_15
      try clear hsz_14 htt_14 hrc_14 hrs_14
      have hsz_17 := hh_14.2.2.2.2.2.1
      have htt_17 := hh_14.2.2.2.2.2.2.1
      refine W.room (fun hrc_17 hrs_17 => ?_)
      refine W.widen (k := LC - s.heap.size) (n := LS - jTot s.heap) (by omega) (by omega) ?_
      rw [hQ]
      exact W.vret hx hb hr (fun t ht hW => ⟨⟨(pc, pa, n_pa, ph, G0), rfl, by (try dsimp only); exact ⟨(by first | (with_reducible assumption) | omega | rfl | fail), (by first | (with_reducible assumption) | omega | rfl | fail), (by first | (with_reducible assumption) | omega | rfl | fail), (by first | (with_reducible assumption) | omega | rfl | fail), (by first | assumption | fail | omega), (by first | (with_reducible assumption) | omega | rfl | fail)⟩, ⟨hh_14.ra (by first | (simp only; omega) | omega) (by first | (simp only; omega) | omega) (M1 := [(bo, 2, 1, .int pc), (bo, 2, 0, .ref pa)]) [1, 2] rfl ht, hg_pa, jNk.rf, by rw [ht]; exact hh_14.iv 1 rfl, by rw [ht]; exact hh_14.2.2.2.2.2.2.2.2.sub (L1 := [(jFy, jYb dC dI G0), (jFl, jLs dC dI ca G0 3 none), (jFdo, jDcc dC dI ca G0 none ph)]) [2, 0, 3] rfl⟩⟩, by rw [ht]; try exact hh_14.1.1, fun q h9 hq => by rw [ht]; try exact hh_14.1.2.1 q h9 hq⟩) hh_14.1.2.2 dX11_changeDocument_122
    · skip
      have c_16' : r_15.toInt = 4 := jb_ne_n (rfl) ((by decide)) c_16
      first | (have hr_15q := hr_15.resolve_left (by omega); clear hr_15) | (have hr_15q := hr_15.resolve_right (by omega); clear hr_15) | try clear hr_15
      first | (have hr_7_2q := hr_7_2.resolve_left (by omega); clear hr_7_2) | (have hr_7_2q := hr_7_2.resolve_right (by omega); clear hr_7_2) | skip
      first | (have hr_5_2q := hr_5_2.resolve_left (by omega); clear hr_5_2) | (have hr_5_2q := hr_5_2.resolve_right (by omega); clear hr_5_2) | try clear hr_5_2
      first | (have hr_3_2q := hr_3_2.resolve_left (by omega); clear hr_3_2) | (have hr_3_2q := hr_3_2.resolve_right (by omega); clear hr_3_2) | skip
      refine lv_aload_n hx hb dX11_changeDocument_69 rfl (lv_at hl 4 rfl) ?_
      refine j7_read hx hb hown hK (C := RX11) (T := TX11) (N := 19) rfl hly_13_2 hlk_28 (hh_14.at 4 rfl) dX11_changeDocument_70 ?_
      refine lv_iload_n hx hb dX11_changeDocument_73 rfl (lv_at hl 2 rfl) ?_
      try clear hsz_14 htt_14 hrc_14 hrs_14
      have hsz_18 := hh_14.2.2.2.2.2.1
      have htt_18 := hh_14.2.2.2.2.2.2.1
      refine W.room (fun hrc_18 hrs_18 => ?_)
      refine va_calli (A0 := jA base) (H0 := s.heap) (va_runV (As := [.int r_7]) (rest := []) ⟨hx, hb, hml, hown, hts⟩ (uX4_valueOf l dC dI ca base B hB hAp hB6 hB141 G0 H_14 js r_7) (cwV 1 hts (jgV (jWr_29 _ (List.mem_of_getElem? (i := 0) rfl)) (jWr_24 _ (List.mem_of_getElem? (i := 12) rfl)) (jWr_24 _ (List.mem_of_getElem? (i := 13) rfl)) (jWr_1 _ (List.mem_of_getElem? (i := 22) rfl)) (jWr_24 _ (List.mem_of_getElem? (i := 14) rfl))) rfl rfl rfl (by decide +kernel) ⟨by rw [← hR]; exact Nat.le_of_ble_eq_true rfl, by rw [← hR]; exact Nat.le_of_ble_eq_true rfl⟩) ⟨fun a U g mk q => by obtain ⟨q0, q1, q2, qK, q10, q11, q12⟩ := q; exact ⟨q0, q1, q2, jG.calling g mk a qK, q10, q11, q12⟩, hh_14.recv (C := RX4) (T := TX4) (N := 12) hB6 rfl (by decide) hg_js hK, fun U hU hW => ⟨rfl, hU, hh_14.2.1, hG.step hW hU hh_14.1, hg_js, jP.nil, trivial⟩⟩ rfl rfl hl.1 rfl (lv_room (Nat.le_of_ble_eq_true rfl)) dX11_changeDocument_74 ⟨by rw [hRc]; show _ + 0 ≤ _; omega, by rw [hRs]; show _ + 0 ≤ _; omega⟩) hh_14.1 (fun q _ h => h) (fun q h => h) (fun r_19 u_18 t_18 H_18 locs_18 ht_18 hvm_18 hr_19 hb_18 hz_18 hk_18 hS_18 => ?_)
      rw [ht_18] at hb_18
      obtain ⟨hb_181, hb_182, hb_183, hb_184, hb_185⟩ := hb_18
      have hh_18 : jSt (dC, dI) B base G0 G0 EX11_changeDocument s.heap 0 0 [(r0, 13, 4, .ref bo), (bo, 2, 1, .int pc), (bo, 2, 0, .ref pa), (r0, 13, 3, .ref ou), (r0, 13, 2, .ref js), (js, 6, 7, .int pv), (js, 6, 8, .int pu), (js, 6, 0, .ref wk), (js, 6, 1, .ref wi), (js, 6, 2, .ref wz), (js, 6, 4, .ref jkf), (js, 6, 5, .ref jks), (r0, 13, 1, .ref fm), (fm, 4, 1, .int fl), (r0, 13, 7, .ref op), (op, 1, 2, .int sz)] [(wk, 140, 1502, ca 1, fk), (wi, 141, 1502, ca 1, fi), (wz, 142, 1502, ca 1, fz), (jkf, 144, 1502, ca 1, fa), (jks, 145, 1502, ca 1, fs)] [(jFl, jLs dC dI ca G0 3 none), ([(2, 0), (2, 1)], jOl (dC, dI) G0 2 [bo, ou] s.heap), (jFy, jYb dC dI G0), (jFdo, jDcc dC dI ca G0 none ph)] H_18 locs_18 := ((hh_14.call hb_181 hb_182 hb_183 hb_184 hS_18 rfl (L1 := [(r0, 13, 4, .ref bo), (bo, 2, 1, .int pc), (bo, 2, 0, .ref pa), (r0, 13, 3, .ref ou), (r0, 13, 2, .ref js), (js, 6, 7, .int pv), (js, 6, 8, .int pu), (js, 6, 0, .ref wk), (js, 6, 1, .ref wi), (js, 6, 2, .ref wz), (js, 6, 4, .ref jkf), (js, 6, 5, .ref jks), (r0, 13, 1, .ref fm), (fm, 4, 1, .int fl), (r0, 13, 7, .ref op), (op, 1, 2, .int sz)]) [0, 1, 2, 3, 4, 5, 6, 7, 8, 9, 10, 11, 12, 13, 14, 15] rfl rfl (M1 := [(wk, 140, 1502, ca 1, fk), (wi, 141, 1502, ca 1, fi), (wz, 142, 1502, ca 1, fz), (jkf, 144, 1502, ca 1, fa), (jks, 145, 1502, ca 1, fs)]) [0, 1, 2, 3, 4] rfl rfl (I1 := [(jFl, jLs dC dI ca G0 3 none), ([(2, 0), (2, 1)], jOl (dC, dI) G0 2 [bo, ou] s.heap), (jFy, jYb dC dI G0), (jFdo, jDcc dC dI ca G0 none ph)]) [0, 1, 2, 3] rfl rfl).more hb_185)
      clear hh_14 ht_18 hvm_18 hz_18 hk_18 hS_18 hb_181 hb_182 hb_183 hb_184 hb_185
      refine lv_aload hx hb dX11_changeDocument_77 (lv_at hl 0 rfl) ?_
      obtain ⟨v_20, hv_20, hh_21⟩ := hh_18.pin (C := RX1) (T := TX1) (N := 17) hB3 rfl (by decide) hg_ret_12 (i := 1) (by decide) rfl
      clear hh_18
      obtain ⟨version_22, rfl⟩ := hv_20
      refine j7_read hx hb hown hK (C := RX1) (T := TX1) (N := 17) rfl hly_3_1 hlk_162 (hh_21.at 0 rfl) dX11_changeDocument_79 ?_
      refine lv_icmp_le (tgt := 122) hx hb dX11_changeDocument_82 (by decide) (fun c_23 => ?_) (fun c_23 => ?_)
      · skip
        have c_23' : r_19.toInt ≤ version_22.toInt := jb_le (rfl) (rfl) c_23
        first | (have hr_7_2q := hr_7_2.resolve_left (by omega); clear hr_7_2) | (have hr_7_2q := hr_7_2.resolve_right (by omega); clear hr_7_2) | skip
        try clear hsz_18 htt_18 hrc_18 hrs_18
        have hsz_24 := hh_21.2.2.2.2.2.1
        have htt_24 := hh_21.2.2.2.2.2.2.1
        refine W.room (fun hrc_24 hrs_24 => ?_)
        refine W.widen (k := LC - s.heap.size) (n := LS - jTot s.heap) (by omega) (by omega) ?_
        rw [hQ]
        exact W.vret hx hb hr (fun t ht hW => ⟨⟨(pc, pa, n_pa, ph, G0), rfl, by (try dsimp only); exact ⟨(by first | (with_reducible assumption) | omega | rfl | fail), (by first | (with_reducible assumption) | omega | rfl | fail), (by first | (with_reducible assumption) | omega | rfl | fail), (by first | (with_reducible assumption) | omega | rfl | fail), (by first | assumption | fail | omega), (by first | (with_reducible assumption) | omega | rfl | fail)⟩, ⟨hh_21.ra (by first | (simp only; omega) | omega) (by first | (simp only; omega) | omega) (M1 := [(bo, 2, 1, .int pc), (bo, 2, 0, .ref pa)]) [2, 3] rfl ht, hg_pa, jNk.rf, by rw [ht]; exact hh_21.iv 1 rfl, by rw [ht]; exact hh_21.2.2.2.2.2.2.2.2.sub (L1 := [(jFy, jYb dC dI G0), (jFl, jLs dC dI ca G0 3 none), (jFdo, jDcc dC dI ca G0 none ph)]) [2, 0, 3] rfl⟩⟩, by rw [ht]; try exact hh_21.1.1, fun q h9 hq => by rw [ht]; try exact hh_21.1.2.1 q h9 hq⟩) hh_21.1.2.2 dX11_changeDocument_122
      · skip
        have c_23' : r_19.toInt > version_22.toInt := jb_le_n (rfl) (rfl) c_23
        first | (have hr_7_2q := hr_7_2.resolve_left (by omega); clear hr_7_2) | (have hr_7_2q := hr_7_2.resolve_right (by omega); clear hr_7_2) | skip
        refine lv_aload_n hx hb dX11_changeDocument_85 rfl (lv_at hl 4 rfl) ?_
        refine j7_read hx hb hown hK (C := RX11) (T := TX11) (N := 19) rfl hly_13_2 hlk_28 (hh_21.at 5 rfl) dX11_changeDocument_86 ?_
        refine lv_iload_n hx hb dX11_changeDocument_89 rfl (lv_at hl 1 rfl) ?_
        try clear hsz_18 htt_18 hrc_18 hrs_18
        have hsz_25 := hh_21.2.2.2.2.2.1
        have htt_25 := hh_21.2.2.2.2.2.2.1
        refine W.room (fun hrc_25 hrs_25 => ?_)
        refine va_calli (A0 := jA base) (H0 := s.heap) (va_runV (As := [.int r_9]) (rest := []) ⟨hx, hb, hml, hown, hts⟩ (uX4_kindOfW l dC dI ca base B hB hAp hB6 hB140 G0 H_18 js r_9 pv wk wi wz fk fi fz) (cwV 1 hts (jgV (jWr_27 _ (List.mem_of_getElem? (i := 5) rfl)) (jWr_23 _ (List.mem_of_getElem? (i := 15) rfl)) (jWr_23 _ (List.mem_of_getElem? (i := 16) rfl)) (jWr_1 _ (List.mem_of_getElem? (i := 22) rfl)) (jWr_23 _ (List.mem_of_getElem? (i := 17) rfl))) rfl rfl rfl (by decide +kernel) ⟨by rw [← hR]; exact Nat.le_of_ble_eq_true rfl, by rw [← hR]; exact Nat.le_of_ble_eq_true rfl⟩) ⟨fun a U g mk q => by obtain ⟨q0, q1, q2, qK, q10, q11, q12, q13, q14, q15, q16⟩ := q; exact ⟨q0, q1, q2, jG.calling g mk a qK, q10, q11, q12, q13, q14, q15, q16⟩, hh_21.recv (C := RX4) (T := TX4) (N := 12) hB6 rfl (by decide) hg_js hK, fun U hU hW => ⟨rfl, hU, hh_21.2.1, hG.step hW hU hh_21.1, hg_js, hg_wk, hg_wi, hg_wz, (hh_21.2.2.1.sub (L1 := [(js, 6, 7, .int pv), (js, 6, 0, .ref wk), (js, 6, 1, .ref wi), (js, 6, 2, .ref wz)]) [6, 8, 9, 10] rfl), (hh_21.2.2.2.2.2.2.2.1.sub (L1 := [(wk, 140, 1502, ca 1, fk), (wi, 141, 1502, ca 1, fi), (wz, 142, 1502, ca 1, fz)]) [0, 1, 2] rfl), ⟨(by first | (with_reducible assumption) | omega | rfl | fail), (by first | (with_reducible assumption) | omega | rfl | fail)⟩⟩⟩ rfl rfl hl.1 rfl (lv_room (Nat.le_of_ble_eq_true rfl)) dX11_changeDocument_90 ⟨by rw [hRc]; show _ + 0 ≤ _; omega, by rw [hRs]; show _ + 0 ≤ _; omega⟩) hh_21.1 (fun q _ h => h) (fun q h => h) (fun r_26 u_25 t_25 H_25 locs_25 ht_25 hvm_25 hr_26 hb_25 hz_25 hk_25 hS_25 => ?_)
        rw [ht_25] at hb_25
        obtain ⟨hb_25, hbF_25⟩ := hb_25
        obtain ⟨hb_251, hb_252, hb_253, hb_254, hb_255⟩ := hb_25
        have hh_25 : jSt (dC, dI) B base G0 G0 EX11_changeDocument s.heap 0 0 [(ret_12, 3, 1, .int version_22), (r0, 13, 4, .ref bo), (bo, 2, 1, .int pc), (bo, 2, 0, .ref pa), (r0, 13, 3, .ref ou), (r0, 13, 2, .ref js), (js, 6, 7, .int pv), (js, 6, 8, .int pu), (js, 6, 0, .ref wk), (js, 6, 1, .ref wi), (js, 6, 2, .ref wz), (js, 6, 4, .ref jkf), (js, 6, 5, .ref jks), (r0, 13, 1, .ref fm), (fm, 4, 1, .int fl), (r0, 13, 7, .ref op), (op, 1, 2, .int sz)] [(wk, 140, 1502, ca 1, fk), (wi, 141, 1502, ca 1, fi), (wz, 142, 1502, ca 1, fz), (jkf, 144, 1502, ca 1, fa), (jks, 145, 1502, ca 1, fs)] [(jFl, jLs dC dI ca G0 3 none), ([(2, 0), (2, 1)], jOl (dC, dI) G0 2 [bo, ou] s.heap), (jFy, jYb dC dI G0), (jFdo, jDcc dC dI ca G0 none ph)] H_25 locs_25 := ((hh_21.call hb_251 hb_252 hb_253 hb_254 hS_25 rfl (L1 := [(ret_12, 3, 1, .int version_22), (r0, 13, 4, .ref bo), (bo, 2, 1, .int pc), (bo, 2, 0, .ref pa), (r0, 13, 3, .ref ou), (r0, 13, 2, .ref js), (js, 6, 7, .int pv), (js, 6, 8, .int pu), (js, 6, 0, .ref wk), (js, 6, 1, .ref wi), (js, 6, 2, .ref wz), (js, 6, 4, .ref jkf), (js, 6, 5, .ref jks), (r0, 13, 1, .ref fm), (fm, 4, 1, .int fl), (r0, 13, 7, .ref op), (op, 1, 2, .int sz)]) [0, 1, 2, 3, 4, 5, 6, 7, 8, 9, 10, 11, 12, 13, 14, 15, 16] rfl rfl (M1 := [(wk, 140, 1502, ca 1, fk), (wi, 141, 1502, ca 1, fi), (wz, 142, 1502, ca 1, fz), (jkf, 144, 1502, ca 1, fa), (jks, 145, 1502, ca 1, fs)]) [0, 1, 2, 3, 4] rfl rfl (I1 := [(jFl, jLs dC dI ca G0 3 none), ([(2, 0), (2, 1)], jOl (dC, dI) G0 2 [bo, ou] s.heap), (jFy, jYb dC dI G0), (jFdo, jDcc dC dI ca G0 none ph)]) [0, 1, 2, 3] rfl rfl).more hb_255)
        clear hh_21 ht_25 hvm_25 hz_25 hk_25 hS_25 hb_251 hb_252 hb_253 hb_254 hb_255
        have hr_26o := jOr.of hr_26
        clear hr_26
        have hr_26 := hr_26o
        clear hr_26o
        refine lv_iconst (v := 2) hx hb dX11_changeDocument_93 (by decide) ?_
        refine lv_icmp_ne (tgt := 122) hx hb dX11_changeDocument_94 (by decide) (fun c_27 => ?_) (fun c_27 => ?_)
        · skip
          have c_27' : r_26.toInt ≠ 2 := jb_ne (rfl) ((by decide)) c_27
          try clear hr_26
          try clear hsz_25 htt_25 hrc_25 hrs_25
          have hsz_28 := hh_25.2.2.2.2.2.1
          have htt_28 := hh_25.2.2.2.2.2.2.1
          refine W.room (fun hrc_28 hrs_28 => ?_)
          refine W.widen (k := LC - s.heap.size) (n := LS - jTot s.heap) (by omega) (by omega) ?_
          rw [hQ]
          exact W.vret hx hb hr (fun t ht hW => ⟨⟨(pc, pa, n_pa, ph, G0), rfl, by (try dsimp only); exact ⟨(by first | (with_reducible assumption) | omega | rfl | fail), (by first | (with_reducible assumption) | omega | rfl | fail), (by first | (with_reducible assumption) | omega | rfl | fail), (by first | (with_reducible assumption) | omega | rfl | fail), (by first | assumption | fail | omega), (by first | (with_reducible assumption) | omega | rfl | fail)⟩, ⟨hh_25.ra (by first | (simp only; omega) | omega) (by first | (simp only; omega) | omega) (M1 := [(bo, 2, 1, .int pc), (bo, 2, 0, .ref pa)]) [2, 3] rfl ht, hg_pa, jNk.rf, by rw [ht]; exact hh_25.iv 1 rfl, by rw [ht]; exact hh_25.2.2.2.2.2.2.2.2.sub (L1 := [(jFy, jYb dC dI G0), (jFl, jLs dC dI ca G0 3 none), (jFdo, jDcc dC dI ca G0 none ph)]) [2, 0, 3] rfl⟩⟩, by rw [ht]; try exact hh_25.1.1, fun q h9 hq => by rw [ht]; try exact hh_25.1.2.1 q h9 hq⟩) hh_25.1.2.2 dX11_changeDocument_122
        · skip
          have c_27' : r_26.toInt = 2 := jb_ne_n (rfl) ((by decide)) c_27
          first | (have hr_26q := hr_26.resolve_left (by omega); clear hr_26) | (have hr_26q := hr_26.resolve_right (by omega); clear hr_26) | try clear hr_26
          first | (have hr_9_2q := hr_9_2.resolve_left (by omega); clear hr_9_2) | (have hr_9_2q := hr_9_2.resolve_right (by omega); clear hr_9_2) | skip
          first | (have hr_5_2q := hr_5_2.resolve_left (by omega); clear hr_5_2) | (have hr_5_2q := hr_5_2.resolve_right (by omega); clear hr_5_2) | try clear hr_5_2
          first | (have hr_3_2q := hr_3_2.resolve_left (by omega); clear hr_3_2) | (have hr_3_2q := hr_3_2.resolve_right (by omega); clear hr_3_2) | skip
          refine lv_aload_n hx hb dX11_changeDocument_97 rfl (lv_at hl 4 rfl) ?_
          refine j7_read hx hb hown hK (C := RX11) (T := TX11) (N := 19) rfl hly_13_2 hlk_28 (hh_25.at 5 rfl) dX11_changeDocument_98 ?_
          refine lv_iload_n hx hb dX11_changeDocument_101 rfl (lv_at hl 1 rfl) ?_
          try clear hsz_25 htt_25 hrc_25 hrs_25
          have hsz_29 := hh_25.2.2.2.2.2.1
          have htt_29 := hh_25.2.2.2.2.2.2.1
          refine W.room (fun hrc_29 hrs_29 => ?_)
          refine va_calli (A0 := jA base) (H0 := s.heap) (va_runV (As := [.int r_9]) (rest := []) ⟨hx, hb, hml, hown, hts⟩ (uX4_sizeOfW l dC dI ca base B hB hAp hB6 hB142 G0 H_25 js r_9 pv wk wi wz fk fi fz) (cwV 1 hts (jgV (jWr_35 _ (List.mem_of_getElem? (i := 18) rfl)) (jWr_24 _ (List.mem_of_getElem? (i := 7) rfl)) (jWr_24 _ (List.mem_of_getElem? (i := 8) rfl)) (jWr_1 _ (List.mem_of_getElem? (i := 22) rfl)) (jWr_24 _ (List.mem_of_getElem? (i := 9) rfl))) rfl rfl rfl (by decide +kernel) ⟨by rw [← hR]; exact Nat.le_of_ble_eq_true rfl, by rw [← hR]; exact Nat.le_of_ble_eq_true rfl⟩) ⟨fun a U g mk q => by obtain ⟨q0, q1, q2, qK, q10, q11, q12, q13, q14, q15, q16⟩ := q; exact ⟨q0, q1, q2, jG.calling g mk a qK, q10, q11, q12, q13, q14, q15, q16⟩, hh_25.recv (C := RX4) (T := TX4) (N := 12) hB6 rfl (by decide) hg_js hK, fun U hU hW => ⟨rfl, hU, hh_25.2.1, hG.step hW hU hh_25.1, hg_js, hg_wk, hg_wi, hg_wz, (hh_25.2.2.1.sub (L1 := [(js, 6, 7, .int pv), (js, 6, 0, .ref wk), (js, 6, 1, .ref wi), (js, 6, 2, .ref wz)]) [6, 8, 9, 10] rfl), (hh_25.2.2.2.2.2.2.2.1.sub (L1 := [(wk, 140, 1502, ca 1, fk), (wi, 141, 1502, ca 1, fi), (wz, 142, 1502, ca 1, fz)]) [0, 1, 2] rfl), ⟨(by first | (with_reducible assumption) | omega | rfl | fail), (by first | (with_reducible assumption) | omega | rfl | fail)⟩⟩⟩ rfl rfl hl.1 rfl (lv_room (Nat.le_of_ble_eq_true rfl)) dX11_changeDocument_102 ⟨by rw [hRc]; show _ + 0 ≤ _; omega, by rw [hRs]; show _ + 0 ≤ _; omega⟩) hh_25.1 (fun q _ h => h) (fun q h => h) (fun r_30 u_29 t_29 H_29 locs_29 ht_29 hvm_29 hr_30 hb_29 hz_29 hk_29 hS_29 => ?_)
          rw [ht_29] at hb_29
          obtain ⟨hb_29, hbF_29⟩ := hb_29
          obtain ⟨hb_291, hb_292, hb_293, hb_294, hb_295⟩ := hb_29
          have hh_29 : jSt (dC, dI) B base G0 G0 EX11_changeDocument s.heap 0 0 [(ret_12, 3, 1, .int version_22), (r0, 13, 4, .ref bo), (bo, 2, 1, .int pc), (bo, 2, 0, .ref pa), (r0, 13, 3, .ref ou), (r0, 13, 2, .ref js), (js, 6, 7, .int pv), (js, 6, 8, .int pu), (js, 6, 0, .ref wk), (js, 6, 1, .ref wi), (js, 6, 2, .ref wz), (js, 6, 4, .ref jkf), (js, 6, 5, .ref jks), (r0, 13, 1, .ref fm), (fm, 4, 1, .int fl), (r0, 13, 7, .ref op), (op, 1, 2, .int sz)] [(wk, 140, 1502, ca 1, fk), (wi, 141, 1502, ca 1, fi), (wz, 142, 1502, ca 1, fz), (jkf, 144, 1502, ca 1, fa), (jks, 145, 1502, ca 1, fs)] [(jFl, jLs dC dI ca G0 3 none), ([(2, 0), (2, 1)], jOl (dC, dI) G0 2 [bo, ou] s.heap), (jFy, jYb dC dI G0), (jFdo, jDcc dC dI ca G0 none ph)] H_29 locs_29 := ((hh_25.call hb_291 hb_292 hb_293 hb_294 hS_29 rfl (L1 := [(ret_12, 3, 1, .int version_22), (r0, 13, 4, .ref bo), (bo, 2, 1, .int pc), (bo, 2, 0, .ref pa), (r0, 13, 3, .ref ou), (r0, 13, 2, .ref js), (js, 6, 7, .int pv), (js, 6, 8, .int pu), (js, 6, 0, .ref wk), (js, 6, 1, .ref wi), (js, 6, 2, .ref wz), (js, 6, 4, .ref jkf), (js, 6, 5, .ref jks), (r0, 13, 1, .ref fm), (fm, 4, 1, .int fl), (r0, 13, 7, .ref op), (op, 1, 2, .int sz)]) [0, 1, 2, 3, 4, 5, 6, 7, 8, 9, 10, 11, 12, 13, 14, 15, 16] rfl rfl (M1 := [(wk, 140, 1502, ca 1, fk), (wi, 141, 1502, ca 1, fi), (wz, 142, 1502, ca 1, fz), (jkf, 144, 1502, ca 1, fa), (jks, 145, 1502, ca 1, fs)]) [0, 1, 2, 3, 4] rfl rfl (I1 := [(jFl, jLs dC dI ca G0 3 none), ([(2, 0), (2, 1)], jOl (dC, dI) G0 2 [bo, ou] s.heap), (jFy, jYb dC dI G0), (jFdo, jDcc dC dI ca G0 none ph)]) [0, 1, 2, 3] rfl rfl).more hb_295)
          clear hh_25 ht_29 hvm_29 hz_29 hk_29 hS_29 hb_291 hb_292 hb_293 hb_294 hb_295
          have hr_30o := jOr.of hr_30
          clear hr_30
          have hr_30 := hr_30o
          clear hr_30o
          refine lv_iconst (v := 1) hx hb dX11_changeDocument_105 (by decide) ?_
          refine lv_icmp_lt (tgt := 122) hx hb dX11_changeDocument_106 (by decide) (fun c_31 => ?_) (fun c_31 => ?_)
          · skip
            have c_31' : r_30.toInt < 1 := jb_lt (rfl) ((by decide)) c_31
            first | (have hr_30q := hr_30.resolve_left (by omega); clear hr_30) | (have hr_30q := hr_30.resolve_right (by omega); clear hr_30) | try clear hr_30
            first | (have hr_9_2q := hr_9_2.resolve_left (by omega); clear hr_9_2) | (have hr_9_2q := hr_9_2.resolve_right (by omega); clear hr_9_2) | skip
            try clear hsz_29 htt_29 hrc_29 hrs_29
            have hsz_32 := hh_29.2.2.2.2.2.1
            have htt_32 := hh_29.2.2.2.2.2.2.1
            refine W.room (fun hrc_32 hrs_32 => ?_)
            refine W.widen (k := LC - s.heap.size) (n := LS - jTot s.heap) (by omega) (by omega) ?_
            rw [hQ]
            exact W.vret hx hb hr (fun t ht hW => ⟨⟨(pc, pa, n_pa, ph, G0), rfl, by (try dsimp only); exact ⟨(by first | (with_reducible assumption) | omega | rfl | fail), (by first | (with_reducible assumption) | omega | rfl | fail), (by first | (with_reducible assumption) | omega | rfl | fail), (by first | (with_reducible assumption) | omega | rfl | fail), (by first | assumption | fail | omega), (by first | (with_reducible assumption) | omega | rfl | fail)⟩, ⟨hh_29.ra (by first | (simp only; omega) | omega) (by first | (simp only; omega) | omega) (M1 := [(bo, 2, 1, .int pc), (bo, 2, 0, .ref pa)]) [2, 3] rfl ht, hg_pa, jNk.rf, by rw [ht]; exact hh_29.iv 1 rfl, by rw [ht]; exact hh_29.2.2.2.2.2.2.2.2.sub (L1 := [(jFy, jYb dC dI G0), (jFl, jLs dC dI ca G0 3 none), (jFdo, jDcc dC dI ca G0 none ph)]) [2, 0, 3] rfl⟩⟩, by rw [ht]; try exact hh_29.1.1, fun q h9 hq => by rw [ht]; try exact hh_29.1.2.1 q h9 hq⟩) hh_29.1.2.2 dX11_changeDocument_122
          · skip
            have c_31' : r_30.toInt ≥ 1 := jb_lt_n (rfl) ((by decide)) c_31
            first | (have hr_30q := hr_30.resolve_left (by omega); clear hr_30) | (have hr_30q := hr_30.resolve_right (by omega); clear hr_30) | try clear hr_30
            first | (have hr_9_2q := hr_9_2.resolve_left (by omega); clear hr_9_2) | (have hr_9_2q := hr_9_2.resolve_right (by omega); clear hr_9_2) | skip
            refine lv_aload_n hx hb dX11_changeDocument_109 rfl (lv_at hl 4 rfl) ?_
            refine j7_read hx hb hown hK (C := RX11) (T := TX11) (N := 19) rfl hly_13_2 hlk_28 (hh_29.at 5 rfl) dX11_changeDocument_110 ?_
            refine lv_iload_n hx hb dX11_changeDocument_113 rfl (lv_at hl 1 rfl) ?_
            try clear hsz_29 htt_29 hrc_29 hrs_29
            have hsz_33 := hh_29.2.2.2.2.2.1
            have htt_33 := hh_29.2.2.2.2.2.2.1
            refine W.room (fun hrc_33 hrs_33 => ?_)
            refine va_calli (A0 := jA base) (H0 := s.heap) (va_runV (As := [.int r_9]) (rest := []) ⟨hx, hb, hml, hown, hts⟩ (uX4_sizeOfW l dC dI ca base B hB hAp hB6 hB142 G0 H_29 js r_9 pv wk wi wz fk fi fz) (cwV 1 hts (jgV (jWr_35 _ (List.mem_of_getElem? (i := 18) rfl)) (jWr_24 _ (List.mem_of_getElem? (i := 7) rfl)) (jWr_24 _ (List.mem_of_getElem? (i := 8) rfl)) (jWr_1 _ (List.mem_of_getElem? (i := 22) rfl)) (jWr_24 _ (List.mem_of_getElem? (i := 9) rfl))) rfl rfl rfl (by decide +kernel) ⟨by rw [← hR]; exact Nat.le_of_ble_eq_true rfl, by rw [← hR]; exact Nat.le_of_ble_eq_true rfl⟩) ⟨fun a U g mk q => by obtain ⟨q0, q1, q2, qK, q10, q11, q12, q13, q14, q15, q16⟩ := q; exact ⟨q0, q1, q2, jG.calling g mk a qK, q10, q11, q12, q13, q14, q15, q16⟩, hh_29.recv (C := RX4) (T := TX4) (N := 12) hB6 rfl (by decide) hg_js hK, fun U hU hW => ⟨rfl, hU, hh_29.2.1, hG.step hW hU hh_29.1, hg_js, hg_wk, hg_wi, hg_wz, (hh_29.2.2.1.sub (L1 := [(js, 6, 7, .int pv), (js, 6, 0, .ref wk), (js, 6, 1, .ref wi), (js, 6, 2, .ref wz)]) [6, 8, 9, 10] rfl), (hh_29.2.2.2.2.2.2.2.1.sub (L1 := [(wk, 140, 1502, ca 1, fk), (wi, 141, 1502, ca 1, fi), (wz, 142, 1502, ca 1, fz)]) [0, 1, 2] rfl), ⟨(by first | (with_reducible assumption) | omega | rfl | fail), (by first | (with_reducible assumption) | omega | rfl | fail)⟩⟩⟩ rfl rfl hl.1 rfl (lv_room (Nat.le_of_ble_eq_true rfl)) dX11_changeDocument_114 ⟨by rw [hRc]; show _ + 0 ≤ _; omega, by rw [hRs]; show _ + 0 ≤ _; omega⟩) hh_29.1 (fun q _ h => h) (fun q h => h) (fun r_34 u_33 t_33 H_33 locs_33 ht_33 hvm_33 hr_34 hb_33 hz_33 hk_33 hS_33 => ?_)
            rw [ht_33] at hb_33
            obtain ⟨hb_33, hbF_33⟩ := hb_33
            obtain ⟨hb_331, hb_332, hb_333, hb_334, hb_335⟩ := hb_33
            have hh_33 : jSt (dC, dI) B base G0 G0 EX11_changeDocument s.heap 0 0 [(ret_12, 3, 1, .int version_22), (r0, 13, 4, .ref bo), (bo, 2, 1, .int pc), (bo, 2, 0, .ref pa), (r0, 13, 3, .ref ou), (r0, 13, 2, .ref js), (js, 6, 7, .int pv), (js, 6, 8, .int pu), (js, 6, 0, .ref wk), (js, 6, 1, .ref wi), (js, 6, 2, .ref wz), (js, 6, 4, .ref jkf), (js, 6, 5, .ref jks), (r0, 13, 1, .ref fm), (fm, 4, 1, .int fl), (r0, 13, 7, .ref op), (op, 1, 2, .int sz)] [(wk, 140, 1502, ca 1, fk), (wi, 141, 1502, ca 1, fi), (wz, 142, 1502, ca 1, fz), (jkf, 144, 1502, ca 1, fa), (jks, 145, 1502, ca 1, fs)] [(jFl, jLs dC dI ca G0 3 none), ([(2, 0), (2, 1)], jOl (dC, dI) G0 2 [bo, ou] s.heap), (jFy, jYb dC dI G0), (jFdo, jDcc dC dI ca G0 none ph)] H_33 locs_33 := ((hh_29.call hb_331 hb_332 hb_333 hb_334 hS_33 rfl (L1 := [(ret_12, 3, 1, .int version_22), (r0, 13, 4, .ref bo), (bo, 2, 1, .int pc), (bo, 2, 0, .ref pa), (r0, 13, 3, .ref ou), (r0, 13, 2, .ref js), (js, 6, 7, .int pv), (js, 6, 8, .int pu), (js, 6, 0, .ref wk), (js, 6, 1, .ref wi), (js, 6, 2, .ref wz), (js, 6, 4, .ref jkf), (js, 6, 5, .ref jks), (r0, 13, 1, .ref fm), (fm, 4, 1, .int fl), (r0, 13, 7, .ref op), (op, 1, 2, .int sz)]) [0, 1, 2, 3, 4, 5, 6, 7, 8, 9, 10, 11, 12, 13, 14, 15, 16] rfl rfl (M1 := [(wk, 140, 1502, ca 1, fk), (wi, 141, 1502, ca 1, fi), (wz, 142, 1502, ca 1, fz), (jkf, 144, 1502, ca 1, fa), (jks, 145, 1502, ca 1, fs)]) [0, 1, 2, 3, 4] rfl rfl (I1 := [(jFl, jLs dC dI ca G0 3 none), ([(2, 0), (2, 1)], jOl (dC, dI) G0 2 [bo, ou] s.heap), (jFy, jYb dC dI G0), (jFdo, jDcc dC dI ca G0 none ph)]) [0, 1, 2, 3] rfl rfl).more hb_335)
            clear hh_29 ht_33 hvm_33 hz_33 hk_33 hS_33 hb_331 hb_332 hb_333 hb_334 hb_335
            have hr_34o := jOr.of hr_34
            clear hr_34
            have hr_34 := hr_34o
            clear hr_34o
            refine lv_bipush (v := 8) hx hb dX11_changeDocument_117 (by decide) ?_
            refine lv_icmp_le (tgt := 123) hx hb dX11_changeDocument_119 (by decide) (fun c_35 => ?_) (fun c_35 => ?_)
            · skip
              have c_35' : r_34.toInt ≤ 8 := jb_le (rfl) ((by decide)) c_35
              first | (have hr_34q := hr_34.resolve_left (by omega); clear hr_34) | (have hr_34q := hr_34.resolve_right (by omega); clear hr_34) | try clear hr_34
              first | (have hr_9_2q := hr_9_2.resolve_left (by omega); clear hr_9_2) | (have hr_9_2q := hr_9_2.resolve_right (by omega); clear hr_9_2) | skip
              first | (have hr_5_2q := hr_5_2.resolve_left (by omega); clear hr_5_2) | (have hr_5_2q := hr_5_2.resolve_right (by omega); clear hr_5_2) | try clear hr_5_2
              first | (have hr_3_2q := hr_3_2.resolve_left (by omega); clear hr_3_2) | (have hr_3_2q := hr_3_2.resolve_right (by omega); clear hr_3_2) | skip
              refine lv_aload_n hx hb dX11_changeDocument_123 rfl (lv_at hl 4 rfl) ?_
              obtain ⟨v_36, hv_36, hh_37⟩ := hh_33.pin (C := RX11) (T := TX11) (N := 19) hB13 rfl (by decide) hg_r0 (i := 15) (by decide) rfl
              clear hh_33
              obtain ⟨spare_38, rfl, hg_spare_38⟩ := hv_36
              refine j7_read hx hb hown hK (C := RX11) (T := TX11) (N := 19) rfl hly_13_15 hlk_82 (hh_37.at 0 rfl) dX11_changeDocument_124 ?_
              refine lv_aload hx hb dX11_changeDocument_127 (lv_at hl 0 rfl) ?_
              try clear hsz_33 htt_33 hrc_33 hrs_33
              have hsz_39 := hh_37.2.2.2.2.2.1
              have htt_39 := hh_37.2.2.2.2.2.2.1
              refine W.room (fun hrc_39 hrs_39 => ?_)
              refine va_callv (A0 := jA base) (H0 := s.heap) (va_runV (As := [.ref ret_12]) (rest := []) ⟨hx, hb, hml, hown, hts⟩ (uX1_copyText l dC dI ca base B hB hAp hB3 hB101 G0 H_33 spare_38 ret_12 1 0) (cwV 1 hts (jgV (jWr_41 _ (List.mem_of_getElem? (i := 8) rfl)) (jWr_41 _ (List.mem_of_getElem? (i := 9) rfl)) (jWr_41 _ (List.mem_of_getElem? (i := 10) rfl)) (jWr_2 _ (List.mem_of_getElem? (i := 21) rfl)) (jWr_41 _ (List.mem_of_getElem? (i := 11) rfl))) rfl rfl rfl (by decide +kernel) ⟨by rw [← hR]; exact Nat.le_of_ble_eq_true rfl, by rw [← hR]; exact Nat.le_of_ble_eq_true rfl⟩) ⟨fun a U g mk q => by obtain ⟨q0, q1, q2, qK, q10, q11, q12, q13⟩ := q; exact ⟨q0, q1, q2, jG.calling g mk a qK, q10, q11, q12, q13⟩, hh_37.recv (C := RX1) (T := TX1) (N := 17) hB3 rfl (by decide) hg_spare_38 hK, fun U hU hW => ⟨rfl, hU, hh_37.2.1, hG.step hW hU hh_37.1, hg_spare_38, hg_ret_12, jP.nil, trivial⟩⟩ rfl rfl hl.1 rfl (lv_room (Nat.le_of_ble_eq_true rfl)) dX11_changeDocument_129 ⟨by rw [hRc]; show _ + 0 ≤ _; omega, by rw [hRs]; show _ + 0 ≤ _; omega⟩) hh_37.1 (fun q _ h => h) (fun q h => h) (fun u_39 t_39 H_39 locs_39 ht_39 hvm_39 hr_40 hb_39 hz_39 hk_39 hS_39 => ?_)
              rw [ht_39] at hb_39
              obtain ⟨hb_391, hb_392, hb_393, hb_394, hb_395⟩ := hb_39
              have hh_39 : jSt (dC, dI) B base G0 G0 EX11_changeDocument s.heap 0 0 [(r0, 13, 15, .ref spare_38), (ret_12, 3, 1, .int version_22), (r0, 13, 4, .ref bo), (bo, 2, 1, .int pc), (bo, 2, 0, .ref pa), (r0, 13, 3, .ref ou), (r0, 13, 2, .ref js), (js, 6, 7, .int pv), (js, 6, 8, .int pu), (js, 6, 0, .ref wk), (js, 6, 1, .ref wi), (js, 6, 2, .ref wz), (js, 6, 4, .ref jkf), (js, 6, 5, .ref jks), (r0, 13, 1, .ref fm), (fm, 4, 1, .int fl), (r0, 13, 7, .ref op), (op, 1, 2, .int sz)] [(wk, 140, 1502, ca 1, fk), (wi, 141, 1502, ca 1, fi), (wz, 142, 1502, ca 1, fz), (jkf, 144, 1502, ca 1, fa), (jks, 145, 1502, ca 1, fs)] [(jFl, jLs dC dI ca G0 3 none), ([(2, 0), (2, 1)], jOl (dC, dI) G0 2 [bo, ou] s.heap), (jFy, jYb dC dI G0), (jFdo, jDcc dC dI ca G0 none ph)] H_39 locs_39 := ((hh_37.call hb_391 hb_392 hb_393 hb_394 hS_39 rfl (L1 := [(r0, 13, 15, .ref spare_38), (ret_12, 3, 1, .int version_22), (r0, 13, 4, .ref bo), (bo, 2, 1, .int pc), (bo, 2, 0, .ref pa), (r0, 13, 3, .ref ou), (r0, 13, 2, .ref js), (js, 6, 7, .int pv), (js, 6, 8, .int pu), (js, 6, 0, .ref wk), (js, 6, 1, .ref wi), (js, 6, 2, .ref wz), (js, 6, 4, .ref jkf), (js, 6, 5, .ref jks), (r0, 13, 1, .ref fm), (fm, 4, 1, .int fl), (r0, 13, 7, .ref op), (op, 1, 2, .int sz)]) [0, 1, 2, 3, 4, 5, 6, 7, 8, 9, 10, 11, 12, 13, 14, 15, 16, 17] rfl rfl (M1 := [(wk, 140, 1502, ca 1, fk), (wi, 141, 1502, ca 1, fi), (wz, 142, 1502, ca 1, fz), (jkf, 144, 1502, ca 1, fa), (jks, 145, 1502, ca 1, fs)]) [0, 1, 2, 3, 4] rfl rfl (I1 := [(jFl, jLs dC dI ca G0 3 none), ([(2, 0), (2, 1)], jOl (dC, dI) G0 2 [bo, ou] s.heap), (jFy, jYb dC dI G0), (jFdo, jDcc dC dI ca G0 none ph)]) [0, 1, 2, 3] rfl rfl).more hb_395)
              clear hh_37 ht_39 hvm_39 hz_39 hk_39 hS_39 hb_391 hb_392 hb_393 hb_394 hb_395
              refine lv_aload_n hx hb dX11_changeDocument_132 rfl (lv_at hl 4 rfl) ?_
              refine j7_read hx hb hown hK (C := RX11) (T := TX11) (N := 19) rfl hly_13_2 hlk_28 (hh_39.at 6 rfl) dX11_changeDocument_133 ?_
              refine lv_iload_n hx hb dX11_changeDocument_136 rfl (lv_at hl 1 rfl) ?_
              try clear hsz_39 htt_39 hrc_39 hrs_39
              have hsz_41 := hh_39.2.2.2.2.2.1
              have htt_41 := hh_39.2.2.2.2.2.2.1
              refine W.room (fun hrc_41 hrs_41 => ?_)
              refine va_calli (A0 := jA base) (H0 := s.heap) (va_runV (As := [.int r_9]) (rest := []) ⟨hx, hb, hml, hown, hts⟩ (uX4_firstOf l dC dI ca base B hB hAp hB6 hB141 G0 H_39 js r_9) (cwV 1 hts (jgV (jWr_41 _ (List.mem_of_getElem? (i := 12) rfl)) (jWr_41 _ (List.mem_of_getElem? (i := 13) rfl)) (jWr_41 _ (List.mem_of_getElem? (i := 14) rfl)) (jWr_1 _ (List.mem_of_getElem? (i := 22) rfl)) (jWr_41 _ (List.mem_of_getElem? (i := 15) rfl))) rfl rfl rfl (by decide +kernel) ⟨by rw [← hR]; exact Nat.le_of_ble_eq_true rfl, by rw [← hR]; exact Nat.le_of_ble_eq_true rfl⟩) ⟨fun a U g mk q => by obtain ⟨q0, q1, q2, qK, q10, q11, q12⟩ := q; exact ⟨q0, q1, q2, jG.calling g mk a qK, q10, q11, q12⟩, hh_39.recv (C := RX4) (T := TX4) (N := 12) hB6 rfl (by decide) hg_js hK, fun U hU hW => ⟨rfl, hU, hh_39.2.1, hG.step hW hU hh_39.1, hg_js, jP.nil, trivial⟩⟩ rfl rfl hl.1 rfl (lv_room (Nat.le_of_ble_eq_true rfl)) dX11_changeDocument_137 ⟨by rw [hRc]; show _ + 0 ≤ _; omega, by rw [hRs]; show _ + 0 ≤ _; omega⟩) hh_39.1 (fun q _ h => h) (fun q h => h) (fun r_42 u_41 t_41 H_41 locs_41 ht_41 hvm_41 hr_42 hb_41 hz_41 hk_41 hS_41 => ?_)
              rw [ht_41] at hb_41
              obtain ⟨hb_411, hb_412, hb_413, hb_414, hb_415⟩ := hb_41
              have hh_41 : jSt (dC, dI) B base G0 G0 EX11_changeDocument s.heap 0 0 [(r0, 13, 15, .ref spare_38), (ret_12, 3, 1, .int version_22), (r0, 13, 4, .ref bo), (bo, 2, 1, .int pc), (bo, 2, 0, .ref pa), (r0, 13, 3, .ref ou), (r0, 13, 2, .ref js), (js, 6, 7, .int pv), (js, 6, 8, .int pu), (js, 6, 0, .ref wk), (js, 6, 1, .ref wi), (js, 6, 2, .ref wz), (js, 6, 4, .ref jkf), (js, 6, 5, .ref jks), (r0, 13, 1, .ref fm), (fm, 4, 1, .int fl), (r0, 13, 7, .ref op), (op, 1, 2, .int sz)] [(wk, 140, 1502, ca 1, fk), (wi, 141, 1502, ca 1, fi), (wz, 142, 1502, ca 1, fz), (jkf, 144, 1502, ca 1, fa), (jks, 145, 1502, ca 1, fs)] [(jFl, jLs dC dI ca G0 3 none), ([(2, 0), (2, 1)], jOl (dC, dI) G0 2 [bo, ou] s.heap), (jFy, jYb dC dI G0), (jFdo, jDcc dC dI ca G0 none ph)] H_41 locs_41 := ((hh_39.call hb_411 hb_412 hb_413 hb_414 hS_41 rfl (L1 := [(r0, 13, 15, .ref spare_38), (ret_12, 3, 1, .int version_22), (r0, 13, 4, .ref bo), (bo, 2, 1, .int pc), (bo, 2, 0, .ref pa), (r0, 13, 3, .ref ou), (r0, 13, 2, .ref js), (js, 6, 7, .int pv), (js, 6, 8, .int pu), (js, 6, 0, .ref wk), (js, 6, 1, .ref wi), (js, 6, 2, .ref wz), (js, 6, 4, .ref jkf), (js, 6, 5, .ref jks), (r0, 13, 1, .ref fm), (fm, 4, 1, .int fl), (r0, 13, 7, .ref op), (op, 1, 2, .int sz)]) [0, 1, 2, 3, 4, 5, 6, 7, 8, 9, 10, 11, 12, 13, 14, 15, 16, 17] rfl rfl (M1 := [(wk, 140, 1502, ca 1, fk), (wi, 141, 1502, ca 1, fi), (wz, 142, 1502, ca 1, fz), (jkf, 144, 1502, ca 1, fa), (jks, 145, 1502, ca 1, fs)]) [0, 1, 2, 3, 4] rfl rfl (I1 := [(jFl, jLs dC dI ca G0 3 none), ([(2, 0), (2, 1)], jOl (dC, dI) G0 2 [bo, ou] s.heap), (jFy, jYb dC dI G0), (jFdo, jDcc dC dI ca G0 none ph)]) [0, 1, 2, 3] rfl rfl).more hb_415)
              clear hh_39 ht_41 hvm_41 hz_41 hk_41 hS_41 hb_411 hb_412 hb_413 hb_414 hb_415
              refine lv_istore (lv' := [(5, .int r_42), (4, .ref ret_12), (3, .int r_9), (2, .int r_7), (1, .int r_3), (0, .ref r0)]) hx hb dX11_changeDocument_140 hl (by decide) rfl (fun ls hl => ?_)
              refine lv_iconst (v := 0) hx hb dX11_changeDocument_142 (by decide) ?_
              refine lv_istore (lv' := [(6, .int 0), (5, .int r_42), (4, .ref ret_12), (3, .int r_9), (2, .int r_7), (1, .int r_3), (0, .ref r0)]) hx hb dX11_changeDocument_143 hl (by decide) rfl (fun ls hl => ?_)
              have L145 : ∀ (N : Nat) (v5_43 : Int32) (v6_43 : Int32) (H_43 : Heap) (locs_43 : List Loc), jSt (dC, dI) B base G0 G0 EX11_changeDocument s.heap 0 0 [(ret_12, 3, 1, .int version_22), (r0, 13, 4, .ref bo), (bo, 2, 1, .int pc), (bo, 2, 0, .ref pa), (r0, 13, 3, .ref ou), (r0, 13, 2, .ref js), (js, 6, 7, .int pv), (js, 6, 8, .int pu), (js, 6, 0, .ref wk), (js, 6, 1, .ref wi), (js, 6, 2, .ref wz), (js, 6, 4, .ref jkf), (js, 6, 5, .ref jks), (r0, 13, 1, .ref fm), (fm, 4, 1, .int fl), (r0, 13, 7, .ref op), (op, 1, 2, .int sz)] [(wk, 140, 1502, ca 1, fk), (wi, 141, 1502, ca 1, fi), (wz, 142, 1502, ca 1, fz), (jkf, 144, 1502, ca 1, fa), (jks, 145, 1502, ca 1, fs)] [(jFl, jLs dC dI ca G0 3 none), ([(2, 0), (2, 1)], jOl (dC, dI) G0 2 [bo, ou] s.heap), (jFy, jYb dC dI G0), (jFdo, jDcc dC dI ca G0 none ph)] H_43 locs_43 → (0 ≤ v6_43.toInt ∧ v6_43.toInt ≤ 8 ∧ (v6_43.toInt = 0 ∨ jTxf fk fs pv.toInt)) → (9 - v6_43.toInt : Int) < N → ∀ ls : Array Slot, lv_has ls 7 [(0, .ref r0), (1, .int r_3), (2, .int r_7), (3, .int r_9), (4, .ref ret_12), (5, .int v5_43), (6, .int v6_43)] → W p l e R s m ([.ref r0] : List Value).toArray below meth c H_43 locs_43 0 0 Q (F0 m 145 ls []) := by
                intro N
                induction N with
                | zero => intro v5_43 v6_43 H_43 locs_43 hh_43  hi_43 hm; exact absurd hm (by omega)
                | succ N L145 =>
                  intro v5_43 v6_43 H_43 locs_43 hh_43  hi_43 hm_43 ls hl
                  obtain ⟨hi_43_0, hi_43_1, hi_43_2⟩ := hi_43
                  try clear hr_9_2; try clear hr_7_2; try clear hr_5_2; try clear hr_3_2
                  refine lv_iload hx hb dX11_changeDocument_145 (lv_at hl 6 rfl) ?_
                  refine lv_aload_n hx hb dX11_changeDocument_147 rfl (lv_at hl 0 rfl) ?_
                  refine j7_read hx hb hown hK (C := RX11) (T := TX11) (N := 19) rfl hly_13_2 hlk_28 (hh_43.at 5 rfl) dX11_changeDocument_148 ?_
                  refine lv_iload_n hx hb dX11_changeDocument_151 rfl (lv_at hl 3 rfl) ?_
                  try clear hsz_41 htt_41 hrc_41 hrs_41
                  have hsz_44 := hh_43.2.2.2.2.2.1
                  have htt_44 := hh_43.2.2.2.2.2.2.1
                  refine W.room (fun hrc_44 hrs_44 => ?_)
                  refine va_calli (A0 := jA base) (H0 := s.heap) (va_runV (As := [.int r_9]) (rest := [.int v6_43]) ⟨hx, hb, hml, hown, hts⟩ (uX4_sizeOfW l dC dI ca base B hB hAp hB6 hB142 G0 H_43 js r_9 pv wk wi wz fk fi fz) (cwV 1 hts (jgV (jWr_35 _ (List.mem_of_getElem? (i := 18) rfl)) (jWr_24 _ (List.mem_of_getElem? (i := 7) rfl)) (jWr_24 _ (List.mem_of_getElem? (i := 8) rfl)) (jWr_1 _ (List.mem_of_getElem? (i := 22) rfl)) (jWr_24 _ (List.mem_of_getElem? (i := 9) rfl))) rfl rfl rfl (by decide +kernel) ⟨by rw [← hR]; exact Nat.le_of_ble_eq_true rfl, by rw [← hR]; exact Nat.le_of_ble_eq_true rfl⟩) ⟨fun a U g mk q => by obtain ⟨q0, q1, q2, qK, q10, q11, q12, q13, q14, q15, q16⟩ := q; exact ⟨q0, q1, q2, jG.calling g mk a qK, q10, q11, q12, q13, q14, q15, q16⟩, hh_43.recv (C := RX4) (T := TX4) (N := 12) hB6 rfl (by decide) hg_js hK, fun U hU hW => ⟨rfl, hU, hh_43.2.1, hG.step hW hU hh_43.1, hg_js, hg_wk, hg_wi, hg_wz, (hh_43.2.2.1.sub (L1 := [(js, 6, 7, .int pv), (js, 6, 0, .ref wk), (js, 6, 1, .ref wi), (js, 6, 2, .ref wz)]) [6, 8, 9, 10] rfl), (hh_43.2.2.2.2.2.2.2.1.sub (L1 := [(wk, 140, 1502, ca 1, fk), (wi, 141, 1502, ca 1, fi), (wz, 142, 1502, ca 1, fz)]) [0, 1, 2] rfl), ⟨(by first | (with_reducible assumption) | omega | rfl | fail), (by first | (with_reducible assumption) | omega | rfl | fail)⟩⟩⟩ rfl rfl hl.1 rfl (lv_room (Nat.le_of_ble_eq_true rfl)) dX11_changeDocument_152 ⟨by rw [hRc]; show _ + 0 ≤ _; omega, by rw [hRs]; show _ + 0 ≤ _; omega⟩) hh_43.1 (fun q _ h => h) (fun q h => h) (fun r_45 u_44 t_44 H_44 locs_44 ht_44 hvm_44 hr_45 hb_44 hz_44 hk_44 hS_44 => ?_)
                  rw [ht_44] at hb_44
                  obtain ⟨hb_44, hbF_44⟩ := hb_44
                  obtain ⟨hb_441, hb_442, hb_443, hb_444, hb_445⟩ := hb_44
                  have hh_44 : jSt (dC, dI) B base G0 G0 EX11_changeDocument s.heap 0 0 [(ret_12, 3, 1, .int version_22), (r0, 13, 4, .ref bo), (bo, 2, 1, .int pc), (bo, 2, 0, .ref pa), (r0, 13, 3, .ref ou), (r0, 13, 2, .ref js), (js, 6, 7, .int pv), (js, 6, 8, .int pu), (js, 6, 0, .ref wk), (js, 6, 1, .ref wi), (js, 6, 2, .ref wz), (js, 6, 4, .ref jkf), (js, 6, 5, .ref jks), (r0, 13, 1, .ref fm), (fm, 4, 1, .int fl), (r0, 13, 7, .ref op), (op, 1, 2, .int sz)] [(wk, 140, 1502, ca 1, fk), (wi, 141, 1502, ca 1, fi), (wz, 142, 1502, ca 1, fz), (jkf, 144, 1502, ca 1, fa), (jks, 145, 1502, ca 1, fs)] [(jFl, jLs dC dI ca G0 3 none), ([(2, 0), (2, 1)], jOl (dC, dI) G0 2 [bo, ou] s.heap), (jFy, jYb dC dI G0), (jFdo, jDcc dC dI ca G0 none ph)] H_44 locs_44 := ((hh_43.call hb_441 hb_442 hb_443 hb_444 hS_44 rfl (L1 := [(ret_12, 3, 1, .int version_22), (r0, 13, 4, .ref bo), (bo, 2, 1, .int pc), (bo, 2, 0, .ref pa), (r0, 13, 3, .ref ou), (r0, 13, 2, .ref js), (js, 6, 7, .int pv), (js, 6, 8, .int pu), (js, 6, 0, .ref wk), (js, 6, 1, .ref wi), (js, 6, 2, .ref wz), (js, 6, 4, .ref jkf), (js, 6, 5, .ref jks), (r0, 13, 1, .ref fm), (fm, 4, 1, .int fl), (r0, 13, 7, .ref op), (op, 1, 2, .int sz)]) [0, 1, 2, 3, 4, 5, 6, 7, 8, 9, 10, 11, 12, 13, 14, 15, 16] rfl rfl (M1 := [(wk, 140, 1502, ca 1, fk), (wi, 141, 1502, ca 1, fi), (wz, 142, 1502, ca 1, fz), (jkf, 144, 1502, ca 1, fa), (jks, 145, 1502, ca 1, fs)]) [0, 1, 2, 3, 4] rfl rfl (I1 := [(jFl, jLs dC dI ca G0 3 none), ([(2, 0), (2, 1)], jOl (dC, dI) G0 2 [bo, ou] s.heap), (jFy, jYb dC dI G0), (jFdo, jDcc dC dI ca G0 none ph)]) [0, 1, 2, 3] rfl rfl).more hb_445)
                  clear hh_43 ht_44 hvm_44 hz_44 hk_44 hS_44 hb_441 hb_442 hb_443 hb_444 hb_445
                  have hr_45o := jOr.of hr_45
                  clear hr_45
                  have hr_45 := hr_45o
                  clear hr_45o
                  refine lv_icmp_ge (tgt := 185) hx hb dX11_changeDocument_155 (by decide) (fun c_46 => ?_) (fun c_46 => ?_)
                  · skip
                    have c_46' : v6_43.toInt ≥ r_45.toInt := jb_ge (rfl) (rfl) c_46
                    first | (have hr_45q := hr_45.resolve_left (by omega); clear hr_45) | (have hr_45q := hr_45.resolve_right (by omega); clear hr_45) | try clear hr_45
                    obtain ⟨tx, tx0, tx1, tx2, tx3⟩ : jTxf fk fs pv.toInt := Or.resolve_left hi_43_2 (by omega)
                    have hby : 123 ≤ fl.toInt := jMg.chg (p := r_3.toInt) (d := r_5.toInt) (u := ux) (v := r_7.toInt) (c := r_9.toInt) (t := tx) hp11 (jNde.of (by omega) (by omega) (by omega) (by omega)) (jNde.of (by omega) (by omega) (by omega) (by omega)) (jNde.of (by omega) (by omega) (by omega) (by omega)) (jNde.of (by omega) (by omega) (by omega) (by omega)) (jNde.of (by omega) (by omega) (by omega) (by omega)) (jNde.of (by omega) (by omega) (by omega) (by omega))
                    refine lv_aload_n hx hb dX11_changeDocument_185 rfl (lv_at hl 0 rfl) ?_
                    refine lv_aload hx hb dX11_changeDocument_186 (lv_at hl 4 rfl) ?_
                    try clear hsz_44 htt_44 hrc_44 hrs_44
                    have hsz_47 := hh_44.2.2.2.2.2.1
                    have htt_47 := hh_44.2.2.2.2.2.2.1
                    refine W.room (fun hrc_47 hrs_47 => ?_)
                    refine va_callv (A0 := jA base) (H0 := s.heap) (va_runV (As := [.ref ret_12]) (rest := []) ⟨hx, hb, hml, hown, hts⟩ (uX11_dismiss l dC dI ca base B hB hAp hB1 hB2 hB3 hB4 hB10 hB13 hB196 hB222 G0 H_44 r0 ret_12 bo pc pa n_pa ou op sz LC LS) (cwV 1 hts (jgV (jWr_42 _ (List.mem_of_getElem? (i := 1) rfl)) (jWr_42 _ (List.mem_of_getElem? (i := 2) rfl)) (jWr_42 _ (List.mem_of_getElem? (i := 3) rfl)) (jWr_1 _ (List.mem_of_getElem? (i := 2) rfl)) (jWr_42 _ (List.mem_of_getElem? (i := 4) rfl))) rfl rfl rfl (by decide +kernel) ⟨by rw [← hR]; exact Nat.le_of_ble_eq_true rfl, by rw [← hR]; exact Nat.le_of_ble_eq_true rfl⟩) ⟨fun a U g mk q => by obtain ⟨q0, q1, q2, qK, q10, q11, q12, q13, q14, q15, q16, q17, q18, q19, q20⟩ := q; exact ⟨q0, q1, q2, jG.calling g mk a qK, (jK5.moved (Vm.Alike.refl U.vm) q10), (jK7.calling g mk a q11), q12, q13, q14, q15, q16, q17, q18, q19, q20⟩, hh_44.recv (C := RX11) (T := TX11) (N := 19) hB13 rfl (by decide) hg_r0 hK, fun U hU hW => ⟨rfl, hU, hh_44.2.1, hG.step hW hU hh_44.1, jK5.moved hW.alike hK5, (hK7.step hW hU hh_44.1), hg_r0, hg_ret_12, hg_bo, hg_pa, hg_ou, hg_op, (hh_44.2.2.1.sub (L1 := [(r0, 13, 4, .ref bo), (bo, 2, 1, .int pc), (bo, 2, 0, .ref pa), (r0, 13, 3, .ref ou), (r0, 13, 7, .ref op), (op, 1, 2, .int sz)]) [1, 2, 3, 4, 15, 16] rfl), (hh_44.2.2.2.2.2.2.2.2.sub (L1 := [(jFy, jYb dC dI G0), (jFl, jLs dC dI ca G0 3 none)]) [2, 0] rfl), (by omega), (by omega), ⟨(by first | (with_reducible assumption) | omega | rfl | fail), (by first | (with_reducible assumption) | omega | rfl | fail), (by first | (with_reducible assumption) | omega | rfl | fail), (by first | (with_reducible assumption) | omega | rfl | fail), (by first | assumption | fail | omega)⟩⟩⟩ rfl rfl hl.1 rfl (lv_room (Nat.le_of_ble_eq_true rfl)) dX11_changeDocument_188 ⟨by rw [hRc]; omega, by rw [hRs]; omega⟩) hh_44.1 (fun q _ h => h) (fun q h => h) (fun u_47 t_47 H_47 locs_47 ht_47 hvm_47 hr_48 hb_47 hz_47 hk_47 hS_47 => ?_)
                    obtain ⟨qc_47, qz_47, qa_47, m_qa_47, G_47⟩ := u_47
                    rw [ht_47] at hb_47
                    simp only at hb_47
                    obtain ⟨⟨hb_471, hb_472, hb_473, hb_474, hb_475, hb_476⟩, hgq_47_0, hN_47, hbO_47, hbE_47⟩ := hb_47
                    have hh_47 : jSt (dC, dI) B base G0 G_47 EX11_changeDocument s.heap (0 + ((m_qa_47 - n_pa) / 16)) (0 + (2 * (m_qa_47 - n_pa))) [(bo, 2, 1, .int qc_47), (op, 1, 2, .int qz_47), (bo, 2, 0, .ref qa_47), (ret_12, 3, 1, .int version_22), (r0, 13, 4, .ref bo), (r0, 13, 3, .ref ou), (r0, 13, 2, .ref js), (js, 6, 7, .int pv), (js, 6, 8, .int pu), (js, 6, 0, .ref wk), (js, 6, 1, .ref wi), (js, 6, 2, .ref wz), (js, 6, 4, .ref jkf), (js, 6, 5, .ref jks), (r0, 13, 1, .ref fm), (fm, 4, 1, .int fl), (r0, 13, 7, .ref op)] [(wk, 140, 1502, ca 1, fk), (wi, 141, 1502, ca 1, fi), (wz, 142, 1502, ca 1, fz), (jkf, 144, 1502, ca 1, fa), (jks, 145, 1502, ca 1, fs)] [(jFdo, jDcc dC dI ca G0 none ph)] H_47 locs_47 := (hh_44.callG hb_471 hb_472 hb_473 hb_474 hb_475 hS_47 rfl (L1 := [(ret_12, 3, 1, .int version_22), (r0, 13, 4, .ref bo), (r0, 13, 3, .ref ou), (r0, 13, 2, .ref js), (js, 6, 7, .int pv), (js, 6, 8, .int pu), (js, 6, 0, .ref wk), (js, 6, 1, .ref wi), (js, 6, 2, .ref wz), (js, 6, 4, .ref jkf), (js, 6, 5, .ref jks), (r0, 13, 1, .ref fm), (fm, 4, 1, .int fl), (r0, 13, 7, .ref op)]) [0, 1, 4, 5, 6, 7, 8, 9, 10, 11, 12, 13, 14, 15] rfl rfl (M1 := [(wk, 140, 1502, ca 1, fk), (wi, 141, 1502, ca 1, fi), (wz, 142, 1502, ca 1, fz), (jkf, 144, 1502, ca 1, fa), (jks, 145, 1502, ca 1, fs)]) [0, 1, 2, 3, 4] rfl rfl (I1 := [(jFdo, jDcc dC dI ca G0 none ph)]) [3] rfl rfl).more hb_476
                    have hNn_47 : (jNk [0, 1, 2, 3, 4, 5, 6, 7, 8, 9, 10, 11, 12, 13, 14, 15, 16]) G0 G_47 := (jNk.rf).tr hN_47
                    have hg_49 := hb_472 _ _ hg_r0
                    have hg_50 := hb_472 _ _ hg_ret_12
                    have hg_51 := hb_472 _ _ hg_bo
                    have hg_52 := hb_472 _ _ hg_ou
                    have hg_53 := hb_472 _ _ hg_js
                    have hg_54 := hb_472 _ _ hg_wk
                    have hg_55 := hb_472 _ _ hg_wi
                    have hg_56 := hb_472 _ _ hg_wz
                    have hg_57 := hb_472 _ _ hg_jkf
                    have hg_58 := hb_472 _ _ hg_jks
                    have hg_59 := hb_472 _ _ hg_fm
                    have hg_60 := hb_472 _ _ hg_op
                    have hd_61 := jDcc.grow (hh_47.iv 0 rfl) hb_472 hN_47 (by decide)
                    have hh_62 := hh_47.sub (L1 := [(bo, 2, 1, .int qc_47), (op, 1, 2, .int qz_47), (bo, 2, 0, .ref qa_47), (ret_12, 3, 1, .int version_22), (r0, 13, 4, .ref bo), (r0, 13, 3, .ref ou), (r0, 13, 2, .ref js), (js, 6, 7, .int pv), (js, 6, 8, .int pu), (js, 6, 0, .ref wk), (js, 6, 1, .ref wi), (js, 6, 2, .ref wz), (js, 6, 4, .ref jkf), (js, 6, 5, .ref jks), (r0, 13, 1, .ref fm), (fm, 4, 1, .int fl), (r0, 13, 7, .ref op)]) [0, 1, 2, 3, 4, 5, 6, 7, 8, 9, 10, 11, 12, 13, 14, 15, 16] rfl (M1 := [(wk, 140, 1502, ca 1, fk), (wi, 141, 1502, ca 1, fi), (wz, 142, 1502, ca 1, fz), (jkf, 144, 1502, ca 1, fa), (jks, 145, 1502, ca 1, fs)]) [0, 1, 2, 3, 4] rfl (I1 := []) [] rfl
                    clear hh_47
                    have hh_63 := hh_62.addI (jDcc.ie hd_61)
                    clear hh_62
                    have hh_64 := hh_63.addIs hbE_47
                    have hd_65 := jOl.trL (hh_44.iv 1 rfl) hh_44.2.2.2.2.1 hbO_47 (by simp)
                    have hh_66 := hh_64.addI (jOl.ie (dC := dC) (dI := dI) (G0 := G0) (k := 2) (rs := [bo, ou]) (H0 := s.heap) (F := [(2, 0), (2, 1)]) (C := RX0) (T := TX0) (N := 2) rfl (by decide) hh_64.2.2.2.2.1 (hd_65))
                    clear hh_64
                    try simp only at hr_48
                    obtain ⟨hr_48_0, hr_48_1, hr_48_2, hr_48_3, hr_48_4, hr_48_5⟩ := hr_48
                    refine lv_aload hx hb dX11_changeDocument_191 (lv_at hl 4 rfl) ?_
                    refine lv_aload_n hx hb dX11_changeDocument_193 rfl (lv_at hl 0 rfl) ?_
                    obtain ⟨v_67, hv_67, hh_68⟩ := hh_66.pin (C := RX11) (T := TX11) (N := 19) hB13 rfl (by decide) hg_49 (i := 15) (by decide) rfl
                    clear hh_66
                    obtain ⟨spare_69, rfl, hg_spare_69⟩ := hv_67
                    refine j7_read hx hb hown hK (C := RX11) (T := TX11) (N := 19) rfl hly_13_15 hlk_82 (hh_68.at 0 rfl) dX11_changeDocument_194 ?_
                    try clear hsz_47 htt_47 hrc_47 hrs_47
                    have hsz_70 := hh_68.2.2.2.2.2.1
                    have htt_70 := hh_68.2.2.2.2.2.2.1
                    refine W.room (fun hrc_70 hrs_70 => ?_)
                    refine va_callv (A0 := jA base) (H0 := s.heap) (va_runV (As := [.ref spare_69]) (rest := []) ⟨hx, hb, hml, hown, hts⟩ (uX1_copyText l dC dI ca base B hB hAp hB3 hB101 G_47 H_47 ret_12 spare_69 0 1) (cwV 1 hts (jgV (jWr_41 _ (List.mem_of_getElem? (i := 8) rfl)) (jWr_41 _ (List.mem_of_getElem? (i := 9) rfl)) (jWr_41 _ (List.mem_of_getElem? (i := 10) rfl)) (jWr_2 _ (List.mem_of_getElem? (i := 21) rfl)) (jWr_41 _ (List.mem_of_getElem? (i := 11) rfl))) rfl rfl rfl (by decide +kernel) ⟨by rw [← hR]; exact Nat.le_of_ble_eq_true rfl, by rw [← hR]; exact Nat.le_of_ble_eq_true rfl⟩) ⟨fun a U g mk q => by obtain ⟨q0, q1, q2, qK, q10, q11, q12, q13⟩ := q; exact ⟨q0, q1, q2, jG.calling g mk a qK, q10, q11, q12, q13⟩, hh_68.recv (C := RX1) (T := TX1) (N := 17) hB3 rfl (by decide) hg_50 hK, fun U hU hW => ⟨rfl, hU, hh_68.2.1, hG.step hW hU hh_68.1, hg_50, hg_spare_69, jP.nil, trivial⟩⟩ rfl rfl hl.1 rfl (lv_room (Nat.le_of_ble_eq_true rfl)) dX11_changeDocument_197 ⟨by rw [hRc]; show _ + 0 ≤ _; omega, by rw [hRs]; show _ + 0 ≤ _; omega⟩) hh_68.1 (fun q _ h => h) (fun q h => h) (fun u_70 t_70 H_70 locs_70 ht_70 hvm_70 hr_71 hb_70 hz_70 hk_70 hS_70 => ?_)
                    rw [ht_70] at hb_70
                    obtain ⟨hb_701, hb_702, hb_703, hb_704, hb_705⟩ := hb_70
                    have hh_70 : jSt (dC, dI) B base G0 G_47 EX11_changeDocument s.heap (0 + ((m_qa_47 - n_pa) / 16)) (0 + (2 * (m_qa_47 - n_pa))) [(r0, 13, 15, .ref spare_69), (bo, 2, 1, .int qc_47), (op, 1, 2, .int qz_47), (bo, 2, 0, .ref qa_47), (ret_12, 3, 1, .int version_22), (r0, 13, 4, .ref bo), (r0, 13, 3, .ref ou), (r0, 13, 2, .ref js), (js, 6, 7, .int pv), (js, 6, 8, .int pu), (js, 6, 0, .ref wk), (js, 6, 1, .ref wi), (js, 6, 2, .ref wz), (js, 6, 4, .ref jkf), (js, 6, 5, .ref jks), (r0, 13, 1, .ref fm), (fm, 4, 1, .int fl), (r0, 13, 7, .ref op)] [(wk, 140, 1502, ca 1, fk), (wi, 141, 1502, ca 1, fi), (wz, 142, 1502, ca 1, fz), (jkf, 144, 1502, ca 1, fa), (jks, 145, 1502, ca 1, fs)] [([(2, 0), (2, 1)], jOl (dC, dI) G0 2 [bo, ou] s.heap), (jFy, jYb dC dI G_47), (jFl, jLs dC dI ca G_47 3 none), (jFdo, jDcc dC dI ca G_47 none ph)] H_70 locs_70 := ((hh_68.call hb_701 hb_702 hb_703 hb_704 hS_70 rfl (L1 := [(r0, 13, 15, .ref spare_69), (bo, 2, 1, .int qc_47), (op, 1, 2, .int qz_47), (bo, 2, 0, .ref qa_47), (ret_12, 3, 1, .int version_22), (r0, 13, 4, .ref bo), (r0, 13, 3, .ref ou), (r0, 13, 2, .ref js), (js, 6, 7, .int pv), (js, 6, 8, .int pu), (js, 6, 0, .ref wk), (js, 6, 1, .ref wi), (js, 6, 2, .ref wz), (js, 6, 4, .ref jkf), (js, 6, 5, .ref jks), (r0, 13, 1, .ref fm), (fm, 4, 1, .int fl), (r0, 13, 7, .ref op)]) [0, 1, 2, 3, 4, 5, 6, 7, 8, 9, 10, 11, 12, 13, 14, 15, 16, 17] rfl rfl (M1 := [(wk, 140, 1502, ca 1, fk), (wi, 141, 1502, ca 1, fi), (wz, 142, 1502, ca 1, fz), (jkf, 144, 1502, ca 1, fa), (jks, 145, 1502, ca 1, fs)]) [0, 1, 2, 3, 4] rfl rfl (I1 := [([(2, 0), (2, 1)], jOl (dC, dI) G0 2 [bo, ou] s.heap), (jFy, jYb dC dI G_47), (jFl, jLs dC dI ca G_47 3 none), (jFdo, jDcc dC dI ca G_47 none ph)]) [0, 1, 2, 3] rfl rfl).more hb_705)
                    clear hh_68 ht_70 hvm_70 hz_70 hk_70 hS_70 hb_701 hb_702 hb_703 hb_704 hb_705
                    refine lv_aload hx hb dX11_changeDocument_200 (lv_at hl 4 rfl) ?_
                    refine lv_aload_n hx hb dX11_changeDocument_202 rfl (lv_at hl 0 rfl) ?_
                    refine j7_read hx hb hown hK (C := RX11) (T := TX11) (N := 19) rfl hly_13_2 hlk_28 (hh_70.at 7 rfl) dX11_changeDocument_203 ?_
                    refine lv_iload_n hx hb dX11_changeDocument_206 rfl (lv_at hl 2 rfl) ?_
                    try clear hsz_70 htt_70 hrc_70 hrs_70
                    have hsz_72 := hh_70.2.2.2.2.2.1
                    have htt_72 := hh_70.2.2.2.2.2.2.1
                    refine W.room (fun hrc_72 hrs_72 => ?_)
                    refine va_calli (A0 := jA base) (H0 := s.heap) (va_runV (As := [.int r_7]) (rest := [.ref ret_12]) ⟨hx, hb, hml, hown, hts⟩ (uX4_valueOf l dC dI ca base B hB hAp hB6 hB141 G_47 H_70 js r_7) (cwV 1 hts (jgV (jWr_29 _ (List.mem_of_getElem? (i := 0) rfl)) (jWr_24 _ (List.mem_of_getElem? (i := 12) rfl)) (jWr_24 _ (List.mem_of_getElem? (i := 13) rfl)) (jWr_1 _ (List.mem_of_getElem? (i := 22) rfl)) (jWr_24 _ (List.mem_of_getElem? (i := 14) rfl))) rfl rfl rfl (by decide +kernel) ⟨by rw [← hR]; exact Nat.le_of_ble_eq_true rfl, by rw [← hR]; exact Nat.le_of_ble_eq_true rfl⟩) ⟨fun a U g mk q => by obtain ⟨q0, q1, q2, qK, q10, q11, q12⟩ := q; exact ⟨q0, q1, q2, jG.calling g mk a qK, q10, q11, q12⟩, hh_70.recv (C := RX4) (T := TX4) (N := 12) hB6 rfl (by decide) hg_53 hK, fun U hU hW => ⟨rfl, hU, hh_70.2.1, hG.step hW hU hh_70.1, hg_53, jP.nil, trivial⟩⟩ rfl rfl hl.1 rfl (lv_room (Nat.le_of_ble_eq_true rfl)) dX11_changeDocument_207 ⟨by rw [hRc]; show _ + 0 ≤ _; omega, by rw [hRs]; show _ + 0 ≤ _; omega⟩) hh_70.1 (fun q _ h => h) (fun q h => h) (fun r_73 u_72 t_72 H_72 locs_72 ht_72 hvm_72 hr_73 hb_72 hz_72 hk_72 hS_72 => ?_)
                    rw [ht_72] at hb_72
                    obtain ⟨hb_721, hb_722, hb_723, hb_724, hb_725⟩ := hb_72
                    have hh_72 : jSt (dC, dI) B base G0 G_47 EX11_changeDocument s.heap (0 + ((m_qa_47 - n_pa) / 16)) (0 + (2 * (m_qa_47 - n_pa))) [(r0, 13, 15, .ref spare_69), (bo, 2, 1, .int qc_47), (op, 1, 2, .int qz_47), (bo, 2, 0, .ref qa_47), (ret_12, 3, 1, .int version_22), (r0, 13, 4, .ref bo), (r0, 13, 3, .ref ou), (r0, 13, 2, .ref js), (js, 6, 7, .int pv), (js, 6, 8, .int pu), (js, 6, 0, .ref wk), (js, 6, 1, .ref wi), (js, 6, 2, .ref wz), (js, 6, 4, .ref jkf), (js, 6, 5, .ref jks), (r0, 13, 1, .ref fm), (fm, 4, 1, .int fl), (r0, 13, 7, .ref op)] [(wk, 140, 1502, ca 1, fk), (wi, 141, 1502, ca 1, fi), (wz, 142, 1502, ca 1, fz), (jkf, 144, 1502, ca 1, fa), (jks, 145, 1502, ca 1, fs)] [([(2, 0), (2, 1)], jOl (dC, dI) G0 2 [bo, ou] s.heap), (jFy, jYb dC dI G_47), (jFl, jLs dC dI ca G_47 3 none), (jFdo, jDcc dC dI ca G_47 none ph)] H_72 locs_72 := ((hh_70.call hb_721 hb_722 hb_723 hb_724 hS_72 rfl (L1 := [(r0, 13, 15, .ref spare_69), (bo, 2, 1, .int qc_47), (op, 1, 2, .int qz_47), (bo, 2, 0, .ref qa_47), (ret_12, 3, 1, .int version_22), (r0, 13, 4, .ref bo), (r0, 13, 3, .ref ou), (r0, 13, 2, .ref js), (js, 6, 7, .int pv), (js, 6, 8, .int pu), (js, 6, 0, .ref wk), (js, 6, 1, .ref wi), (js, 6, 2, .ref wz), (js, 6, 4, .ref jkf), (js, 6, 5, .ref jks), (r0, 13, 1, .ref fm), (fm, 4, 1, .int fl), (r0, 13, 7, .ref op)]) [0, 1, 2, 3, 4, 5, 6, 7, 8, 9, 10, 11, 12, 13, 14, 15, 16, 17] rfl rfl (M1 := [(wk, 140, 1502, ca 1, fk), (wi, 141, 1502, ca 1, fi), (wz, 142, 1502, ca 1, fz), (jkf, 144, 1502, ca 1, fa), (jks, 145, 1502, ca 1, fs)]) [0, 1, 2, 3, 4] rfl rfl (I1 := [([(2, 0), (2, 1)], jOl (dC, dI) G0 2 [bo, ou] s.heap), (jFy, jYb dC dI G_47), (jFl, jLs dC dI ca G_47 3 none), (jFdo, jDcc dC dI ca G_47 none ph)]) [0, 1, 2, 3] rfl rfl).more hb_725)
                    clear hh_70 ht_72 hvm_72 hz_72 hk_72 hS_72 hb_721 hb_722 hb_723 hb_724 hb_725
                    refine j7_put hx hb hown hK hh_72 hB hAp hB3 (C := RX1) (T := TX1) (N := 17) rfl (by decide) hg_50 (i := 1) (by decide) hly_3_1 rfl hlk_162 rfl (ty := .int) (v := .int r_73) (by decide +kernel) rfl rfl (⟨_, rfl⟩) rfl (L1 := [(r0, 13, 15, .ref spare_69), (bo, 2, 1, .int qc_47), (op, 1, 2, .int qz_47), (bo, 2, 0, .ref qa_47), (r0, 13, 4, .ref bo), (r0, 13, 3, .ref ou), (r0, 13, 2, .ref js), (js, 6, 7, .int pv), (js, 6, 8, .int pu), (js, 6, 0, .ref wk), (js, 6, 1, .ref wi), (js, 6, 2, .ref wz), (js, 6, 4, .ref jkf), (js, 6, 5, .ref jks), (r0, 13, 1, .ref fm), (fm, 4, 1, .int fl), (r0, 13, 7, .ref op)]) [0, 1, 2, 3, 5, 6, 7, 8, 9, 10, 11, 12, 13, 14, 15, 16, 17] rfl rfl rfl dX11_changeDocument_210 (fun H_74 locs_74 hh_74 => ?_)
                    clear hh_72
                    obtain ⟨yb_75, ye_75, w_75, pho_75, fb_75, fe_75, ps_75, pk_75, vc_75, hgb_75, hge_75, h5_75, h6_75, hd_75, hpq_75, hE_75, hpl_75, hpw_75⟩ := jDcc.opn (hh_74.iv 3 rfl) hg_50
                    have hpw_75 := hpw_75 rfl
                    have hh_77 := hh_74.sub (L1 := [(ret_12, 3, 1, .int r_73), (r0, 13, 15, .ref spare_69), (bo, 2, 1, .int qc_47), (op, 1, 2, .int qz_47), (bo, 2, 0, .ref qa_47), (r0, 13, 4, .ref bo), (r0, 13, 3, .ref ou), (r0, 13, 2, .ref js), (js, 6, 7, .int pv), (js, 6, 8, .int pu), (js, 6, 0, .ref wk), (js, 6, 1, .ref wi), (js, 6, 2, .ref wz), (js, 6, 4, .ref jkf), (js, 6, 5, .ref jks), (r0, 13, 1, .ref fm), (fm, 4, 1, .int fl), (r0, 13, 7, .ref op)]) [0, 1, 2, 3, 4, 5, 6, 7, 8, 9, 10, 11, 12, 13, 14, 15, 16, 17] rfl (M1 := [(wk, 140, 1502, ca 1, fk), (wi, 141, 1502, ca 1, fi), (wz, 142, 1502, ca 1, fz), (jkf, 144, 1502, ca 1, fa), (jks, 145, 1502, ca 1, fs)]) [0, 1, 2, 3, 4] rfl (I1 := [([(2, 0), (2, 1)], jOl (dC, dI) G0 2 [bo, ou] s.heap), (jFy, jYb dC dI G_47), (jFl, jLs dC dI ca G_47 3 none)]) [0, 1, 2] rfl
                    clear hh_74
                    have hh_78 := (hh_77.more (P1 := [(ret_12, 3, 4, .int ps_75), (ret_12, 3, 10, .int pk_75), (ret_12, 3, 5, .ref yb_75), (ret_12, 3, 6, .ref ye_75)]) (jP.cons hg_50 (hd_75.1 _ (List.mem_of_getElem? (i := 0) rfl)).2 (jP.cons hg_50 (hd_75.1 _ (List.mem_of_getElem? (i := 1) rfl)).2 (jP.cons hg_50 h5_75 (jP.cons hg_50 h6_75 jP.nil))))).moreM hd_75.2.1
                    have hh_79 := hh_78.addI (jDcc.ie hE_75)
                    clear hh_78
                    have hps_75 := hd_75.2.2.2
                    have hsn_75 := hd_75.2.2.1
                    obtain ⟨v_80, hv_80, hh_75⟩ := hh_79.pin (C := RX1) (T := TX1) (N := 17) hB3 rfl (by decide) hg_50 (i := 11) (by decide) rfl
                    have hvq_75 : vc_75 = v_80 := jf.uniq (hd_75.1 _ (List.mem_of_getElem? (i := 2) rfl)).2 (hh_75.at 0 rfl)
                    subst hvq_75
                    clear hh_79
                    rcases hv_80 with rfl | ⟨chk_81, nchk_81, rfl, hg_chk_81, hlen_chk_81⟩
                    · have hpo_75 := jPo.nul (hpq_75 rfl)
                      refine lv_aload hx hb dX11_changeDocument_213 (lv_at hl 4 rfl) ?_
                      refine lv_aload_n hx hb dX11_changeDocument_215 rfl (lv_at hl 0 rfl) ?_
                      obtain ⟨v_83, hv_83, hh_84⟩ := hh_75.pin (C := RX11) (T := TX11) (N := 19) hB13 rfl (by decide) hg_49 (i := 5) (by decide) rfl
                      clear hh_75
                      obtain ⟨kernel_85, rfl, hg_kernel_85⟩ := hv_83
                      refine j7_read hx hb hown hK (C := RX11) (T := TX11) (N := 19) rfl hly_13_5 hlk_41 (hh_84.at 0 rfl) dX11_changeDocument_216 ?_
                      obtain ⟨v_86, hv_86, hh_87⟩ := hh_84.pin (C := RX5) (T := TX5) (N := 11) hB7 rfl (by decide) hg_kernel_85 (i := 1) (by decide) rfl
                      clear hh_84
                      obtain ⟨syntax_88, rfl, hg_syntax_88⟩ := hv_86
                      refine j7_read hx hb hown hK (C := RX5) (T := TX5) (N := 11) rfl hly_7_1 hlk_203 (hh_87.at 0 rfl) dX11_changeDocument_219 ?_
                      obtain ⟨v_91, hv_91, hh_92⟩ := hh_87.pin (C := RX1) (T := TX1) (N := 17) hB3 rfl (by decide) hg_50 (i := 3) (by decide) rfl
                      obtain ⟨length_93, rfl, hlolength_93, hhilength_93⟩ := hv_91
                      try clear hsz_72 htt_72 hrc_72 hrs_72
                      have hsz_89 := hh_92.2.2.2.2.2.1
                      have htt_89 := hh_92.2.2.2.2.2.2.1
                      refine W.room (fun hrc_89 hrs_89 => ?_)
                      refine va_callv (A0 := jA base) (H0 := s.heap) (va_runV (As := [.ref syntax_88]) (rest := []) ⟨hx, hb, hml, hown, hts⟩ (uX1_partE l dC dI ca base B hB hAp hB3 hB8 hB12 hB101 hB102 hB132 hB133 hB171 hB172 hB293 G_47 H_74 ret_12 syntax_88 0 length_93 yb_75 ye_75 (pho_75) fb_75 fe_75) (cwV 1 hts (jgV (jWr_36 _ (List.mem_of_getElem? (i := 2) rfl)) (jWr_36 _ (List.mem_of_getElem? (i := 3) rfl)) (jWr_36 _ (List.mem_of_getElem? (i := 4) rfl)) (jWr_2 _ (List.mem_of_getElem? (i := 21) rfl)) (jWr_36 _ (List.mem_of_getElem? (i := 5) rfl))) rfl rfl rfl (by decide +kernel) ⟨by rw [← hR]; exact Nat.le_of_ble_eq_true rfl, by rw [← hR]; exact Nat.le_of_ble_eq_true rfl⟩) ⟨fun a U g mk q => by obtain ⟨q0, q1, q2, qK, q10, q11, q12, q13, q14, q15, q16, q17⟩ := q; exact ⟨q0, q1, q2, jG.calling g mk a qK, q10, q11, q12, q13, q14, q15, q16, q17⟩, hh_92.recv (C := RX1) (T := TX1) (N := 17) hB3 rfl (by decide) hg_50 hK, fun U hU hW => ⟨rfl, hU, hh_92.2.1, hG.step hW hU hh_92.1, hg_50, hg_syntax_88, hgb_75, hge_75, (hh_92.2.2.1.sub (L1 := [(ret_12, 3, 3, .int length_93), (ret_12, 3, 5, .ref yb_75), (ret_12, 3, 6, .ref ye_75)]) [0, 6, 7] rfl), (hh_92.2.2.2.2.2.2.2.1.sub (L1 := [(yb_75, 171, 40, ca 1, fb_75), (ye_75, 172, 40, ca 1, fe_75)]) [0, 1] rfl), (hh_92.2.2.2.2.2.2.2.2.sub (L1 := [(jFdo, jDcc dC dI ca G_47 (some ret_12) pho_75)]) [0] rfl), ⟨(by first | (with_reducible assumption) | omega | rfl | fail), (by first | (with_reducible assumption) | omega | rfl | fail)⟩⟩⟩ rfl rfl hl.1 rfl (lv_room (Nat.le_of_ble_eq_true rfl)) dX11_changeDocument_222 ⟨by rw [hRc]; show _ + 0 ≤ _; omega, by rw [hRs]; show _ + 0 ≤ _; omega⟩) hh_92.1 (fun q _ h => h) (fun q h => h) (fun u_89 t_89 H_89 locs_89 ht_89 hvm_89 hr_90 hb_89 hz_89 hk_89 hS_89 => ?_)
                      obtain ⟨qs_89, gb_89, ge_89⟩ := u_89
                      rw [ht_89] at hb_89
                      obtain ⟨hb_89, hbE_89⟩ := hb_89
                      obtain ⟨hb_89, hbO_89⟩ := hb_89
                      obtain ⟨⟨hb_891, hb_892, hb_893, hb_894, hb_895⟩, hb_896⟩ := hb_89
                      have hh_89 : jSt (dC, dI) B base G0 G_47 EX11_changeDocument s.heap (0 + ((m_qa_47 - n_pa) / 16)) (0 + (2 * (m_qa_47 - n_pa))) [(ret_12, 3, 4, .int qs_89), (ret_12, 3, 3, .int length_93), (kernel_85, 7, 1, .ref syntax_88), (r0, 13, 5, .ref kernel_85), (ret_12, 3, 11, .null), (ret_12, 3, 10, .int pk_75), (ret_12, 3, 5, .ref yb_75), (ret_12, 3, 6, .ref ye_75), (ret_12, 3, 1, .int r_73), (r0, 13, 15, .ref spare_69), (bo, 2, 1, .int qc_47), (op, 1, 2, .int qz_47), (bo, 2, 0, .ref qa_47), (r0, 13, 4, .ref bo), (r0, 13, 3, .ref ou), (r0, 13, 2, .ref js), (js, 6, 7, .int pv), (js, 6, 8, .int pu), (js, 6, 0, .ref wk), (js, 6, 1, .ref wi), (js, 6, 2, .ref wz), (js, 6, 4, .ref jkf), (js, 6, 5, .ref jks), (r0, 13, 1, .ref fm), (fm, 4, 1, .int fl), (r0, 13, 7, .ref op)] [(yb_75, 171, 40, ca 1, gb_89), (ye_75, 172, 40, ca 1, ge_89), (wk, 140, 1502, ca 1, fk), (wi, 141, 1502, ca 1, fi), (wz, 142, 1502, ca 1, fz), (jkf, 144, 1502, ca 1, fa), (jks, 145, 1502, ca 1, fs)] [(jFdo, jDcc dC dI ca G_47 (some ret_12) pho_75), ([(2, 0), (2, 1)], jOl (dC, dI) G0 2 [bo, ou] s.heap), (jFy, jYb dC dI G_47), (jFl, jLs dC dI ca G_47 3 none)] H_89 locs_89 := (((hh_92.call hb_891 hb_892 hb_893 hb_894 hS_89 rfl (L1 := [(ret_12, 3, 3, .int length_93), (kernel_85, 7, 1, .ref syntax_88), (r0, 13, 5, .ref kernel_85), (ret_12, 3, 11, .null), (ret_12, 3, 10, .int pk_75), (ret_12, 3, 5, .ref yb_75), (ret_12, 3, 6, .ref ye_75), (ret_12, 3, 1, .int r_73), (r0, 13, 15, .ref spare_69), (bo, 2, 1, .int qc_47), (op, 1, 2, .int qz_47), (bo, 2, 0, .ref qa_47), (r0, 13, 4, .ref bo), (r0, 13, 3, .ref ou), (r0, 13, 2, .ref js), (js, 6, 7, .int pv), (js, 6, 8, .int pu), (js, 6, 0, .ref wk), (js, 6, 1, .ref wi), (js, 6, 2, .ref wz), (js, 6, 4, .ref jkf), (js, 6, 5, .ref jks), (r0, 13, 1, .ref fm), (fm, 4, 1, .int fl), (r0, 13, 7, .ref op)]) [0, 1, 2, 3, 5, 6, 7, 8, 9, 10, 11, 12, 13, 14, 15, 16, 17, 18, 19, 20, 21, 22, 23, 24, 25] rfl rfl (M1 := [(wk, 140, 1502, ca 1, fk), (wi, 141, 1502, ca 1, fi), (wz, 142, 1502, ca 1, fz), (jkf, 144, 1502, ca 1, fa), (jks, 145, 1502, ca 1, fs)]) [2, 3, 4, 5, 6] rfl rfl (I1 := [([(2, 0), (2, 1)], jOl (dC, dI) G0 2 [bo, ou] s.heap), (jFy, jYb dC dI G_47), (jFl, jLs dC dI ca G_47 3 none)]) [1, 2, 3] rfl rfl).more hb_895).moreM hb_896).addIs hbE_89
                      clear hh_92 ht_89 hvm_89 hz_89 hk_89 hS_89 hb_891 hb_892 hb_893 hb_894 hb_895
                      clear hb_896
                      clear  hbE_89
                      try simp only at hr_90
                      obtain ⟨hr_90_0, hr_90_1, hr_90_2⟩ := hr_90
                      refine lv_aload hx hb dX11_changeDocument_225 (lv_at hl 4 rfl) ?_
                      try clear hsz_89 htt_89 hrc_89 hrs_89
                      have hsz_94 := hh_89.2.2.2.2.2.1
                      have htt_94 := hh_89.2.2.2.2.2.2.1
                      refine W.room (fun hrc_94 hrs_94 => ?_)
                      refine va_calli (A0 := jA base) (H0 := s.heap) (va_runV (As := []) (rest := []) ⟨hx, hb, hml, hown, hts⟩ (uX1_keepCheckedE l dC dI ca base B hB hAp hB3 hB11 hB101 hB171 hB172 hB210 G_47 H_89 ret_12 yb_75 ye_75 qs_89 pk_75 (pho_75)) (cwV 0 hts (jgV (jWr_42 _ (List.mem_of_getElem? (i := 16) rfl)) (jWr_42 _ (List.mem_of_getElem? (i := 17) rfl)) (jWr_42 _ (List.mem_of_getElem? (i := 18) rfl)) (jWr_2 _ (List.mem_of_getElem? (i := 21) rfl)) (jWr_42 _ (List.mem_of_getElem? (i := 19) rfl))) rfl rfl rfl (by decide +kernel) ⟨by rw [← hR]; exact Nat.le_of_ble_eq_true rfl, by rw [← hR]; exact Nat.le_of_ble_eq_true rfl⟩) ⟨fun a U g mk q => by obtain ⟨q0, q1, q2, qK, q10, q11, q12, q13, q14, q15, q16⟩ := q; exact ⟨q0, q1, q2, jG.calling g mk a qK, (va_K.moved (Vm.Alike.refl U.vm) q10), q11, q12, q13, q14, q15, q16⟩, hh_89.recv (C := RX1) (T := TX1) (N := 17) hB3 rfl (by decide) hg_50 hK, fun U hU hW => ⟨rfl, hU, hh_89.2.1, hG.step hW hU hh_89.1, va_K.moved hW.alike hK2, hg_50, hgb_75, hge_75, (hh_89.2.2.1.sub (L1 := [(ret_12, 3, 5, .ref yb_75), (ret_12, 3, 6, .ref ye_75), (ret_12, 3, 4, .int qs_89), (ret_12, 3, 10, .int pk_75)]) [6, 7, 0, 5] rfl), (hh_89.2.2.2.2.2.2.2.2.sub (L1 := [(jFdo, jDcc dC dI ca G_47 (some ret_12) pho_75)]) [0] rfl), ⟨(by first | (with_reducible assumption) | omega | rfl | fail), (by first | (with_reducible assumption) | omega | rfl | fail), (by first | (with_reducible assumption) | omega | rfl | fail), (by first | (with_reducible assumption) | omega | rfl | fail)⟩⟩⟩ rfl rfl hl.1 rfl (lv_room (Nat.le_of_ble_eq_true rfl)) dX11_changeDocument_227 ⟨by rw [hRc]; show _ + 0 ≤ _; omega, by rw [hRs]; show _ + 0 ≤ _; omega⟩) hh_89.1 (fun q _ h => h) (fun q h => h) (fun r_95 u_94 t_94 H_94 locs_94 ht_94 hvm_94 hr_95 hb_94 hz_94 hk_94 hS_94 => ?_)
                      obtain ⟨qk_94, rfl⟩ : ∃ z, z = u_94 := ⟨_, rfl⟩
                      rw [ht_94] at hb_94
                      obtain ⟨hb_94, hbE_94⟩ := hb_94
                      obtain ⟨hb_94, hbO_94⟩ := hb_94
                      obtain ⟨hb_941, hb_942, hb_943, hb_944, hb_945⟩ := hb_94
                      have hh_94 : jSt (dC, dI) B base G0 G_47 EX11_changeDocument s.heap (0 + ((m_qa_47 - n_pa) / 16)) (0 + (2 * (m_qa_47 - n_pa))) [(ret_12, 3, 10, .int qk_94), (ret_12, 3, 4, .int qs_89), (ret_12, 3, 3, .int length_93), (kernel_85, 7, 1, .ref syntax_88), (r0, 13, 5, .ref kernel_85), (ret_12, 3, 11, .null), (ret_12, 3, 5, .ref yb_75), (ret_12, 3, 6, .ref ye_75), (ret_12, 3, 1, .int r_73), (r0, 13, 15, .ref spare_69), (bo, 2, 1, .int qc_47), (op, 1, 2, .int qz_47), (bo, 2, 0, .ref qa_47), (r0, 13, 4, .ref bo), (r0, 13, 3, .ref ou), (r0, 13, 2, .ref js), (js, 6, 7, .int pv), (js, 6, 8, .int pu), (js, 6, 0, .ref wk), (js, 6, 1, .ref wi), (js, 6, 2, .ref wz), (js, 6, 4, .ref jkf), (js, 6, 5, .ref jks), (r0, 13, 1, .ref fm), (fm, 4, 1, .int fl), (r0, 13, 7, .ref op)] [(yb_75, 171, 40, ca 1, gb_89), (ye_75, 172, 40, ca 1, ge_89), (wk, 140, 1502, ca 1, fk), (wi, 141, 1502, ca 1, fi), (wz, 142, 1502, ca 1, fz), (jkf, 144, 1502, ca 1, fa), (jks, 145, 1502, ca 1, fs)] [(jFdo, jDcc dC dI ca G_47 (some ret_12) pho_75), ([(2, 0), (2, 1)], jOl (dC, dI) G0 2 [bo, ou] s.heap), (jFy, jYb dC dI G_47), (jFl, jLs dC dI ca G_47 3 none)] H_94 locs_94 := (((hh_89.call hb_941 hb_942 hb_943 hb_944 hS_94 rfl (L1 := [(ret_12, 3, 4, .int qs_89), (ret_12, 3, 3, .int length_93), (kernel_85, 7, 1, .ref syntax_88), (r0, 13, 5, .ref kernel_85), (ret_12, 3, 11, .null), (ret_12, 3, 5, .ref yb_75), (ret_12, 3, 6, .ref ye_75), (ret_12, 3, 1, .int r_73), (r0, 13, 15, .ref spare_69), (bo, 2, 1, .int qc_47), (op, 1, 2, .int qz_47), (bo, 2, 0, .ref qa_47), (r0, 13, 4, .ref bo), (r0, 13, 3, .ref ou), (r0, 13, 2, .ref js), (js, 6, 7, .int pv), (js, 6, 8, .int pu), (js, 6, 0, .ref wk), (js, 6, 1, .ref wi), (js, 6, 2, .ref wz), (js, 6, 4, .ref jkf), (js, 6, 5, .ref jks), (r0, 13, 1, .ref fm), (fm, 4, 1, .int fl), (r0, 13, 7, .ref op)]) [0, 1, 2, 3, 4, 6, 7, 8, 9, 10, 11, 12, 13, 14, 15, 16, 17, 18, 19, 20, 21, 22, 23, 24, 25] rfl rfl (M1 := [(yb_75, 171, 40, ca 1, gb_89), (ye_75, 172, 40, ca 1, ge_89), (wk, 140, 1502, ca 1, fk), (wi, 141, 1502, ca 1, fi), (wz, 142, 1502, ca 1, fz), (jkf, 144, 1502, ca 1, fa), (jks, 145, 1502, ca 1, fs)]) [0, 1, 2, 3, 4, 5, 6] rfl rfl (I1 := [([(2, 0), (2, 1)], jOl (dC, dI) G0 2 [bo, ou] s.heap), (jFy, jYb dC dI G_47), (jFl, jLs dC dI ca G_47 3 none)]) [1, 2, 3] rfl rfl).more hb_945)).addIs hbE_94
                      clear hh_89 ht_94 hvm_94 hz_94 hk_94 hS_94 hb_941 hb_942 hb_943 hb_944 hb_945
                      clear  hbE_94
                      obtain ⟨hr_95b, hr_95p⟩ := hr_95
                      obtain ⟨hr_95p_0, hr_95p_1, hr_95p_2, hr_95p_3⟩ := hr_95p
                      have hr_95p_3o := jOr.of hr_95p_3
                      clear hr_95p_3
                      have hr_95p_3 := hr_95p_3o
                      clear hr_95p_3o
                      have hr_95' := jb_01 hr_95b
                      refine lv_if_ne (tgt := 239) hx hb dX11_changeDocument_230 (by decide) (fun c_96 => ?_) (fun c_96 => ?_)
                      · skip
                        have c_96' : r_95.toInt ≠ 0 := jb_ne (rfl) ((by decide)) c_96
                        first | (have hr_95p_3q := hr_95p_3.resolve_left (by omega); clear hr_95p_3) | (have hr_95p_3q := hr_95p_3.resolve_right (by omega); clear hr_95p_3) | skip
                        have hjg := jEd.ge hr_90_2 (k := qk_94.toInt) (by omega)
                        have hjh := jSn.ge hr_90_2 (k := qk_94.toInt) (by omega)
                        obtain ⟨phn_97, hphn_97⟩ : ∃ q : Nat, q = pho_75 + (575 * (qs_89.toInt - qk_94.toInt) + (1500 - jEd ge_89 qk_94.toInt)).toNat := ⟨_, rfl⟩
                        have hF_97 := jDcc.full (ph1 := phn_97) (hh_94.iv 0 rfl) hg_50 (hh_94.at 6 rfl) (hh_94.at 7 rfl) ⟨(hh_94.2.2.1.sub (L1 := [(ret_12, 3, 4, .int qs_89), (ret_12, 3, 10, .int qk_94), (ret_12, 3, 11, .null)]) [1, 0, 5] rfl), (hh_94.2.2.2.2.2.2.2.1.sub (L1 := [(yb_75, 171, 40, ca 1, gb_89), (ye_75, 172, 40, ca 1, ge_89)]) [0, 1] rfl), (hr_90_2.mono (by omega)), by omega⟩ (w := (575 * (qs_89.toInt - qk_94.toInt) + (1500 - jEd ge_89 qk_94.toInt)).toNat) (fun _ => jPo.mkN (by omega)) (by omega) (fun _ => by omega)
                        have hh_98 := hh_94.sub (L1 := [(ret_12, 3, 10, .int qk_94), (ret_12, 3, 4, .int qs_89), (ret_12, 3, 3, .int length_93), (kernel_85, 7, 1, .ref syntax_88), (r0, 13, 5, .ref kernel_85), (ret_12, 3, 11, .null), (ret_12, 3, 5, .ref yb_75), (ret_12, 3, 6, .ref ye_75), (ret_12, 3, 1, .int r_73), (r0, 13, 15, .ref spare_69), (bo, 2, 1, .int qc_47), (op, 1, 2, .int qz_47), (bo, 2, 0, .ref qa_47), (r0, 13, 4, .ref bo), (r0, 13, 3, .ref ou), (r0, 13, 2, .ref js), (js, 6, 7, .int pv), (js, 6, 8, .int pu), (js, 6, 0, .ref wk), (js, 6, 1, .ref wi), (js, 6, 2, .ref wz), (js, 6, 4, .ref jkf), (js, 6, 5, .ref jks), (r0, 13, 1, .ref fm), (fm, 4, 1, .int fl), (r0, 13, 7, .ref op)]) [0, 1, 2, 3, 4, 5, 6, 7, 8, 9, 10, 11, 12, 13, 14, 15, 16, 17, 18, 19, 20, 21, 22, 23, 24, 25] rfl (M1 := [(yb_75, 171, 40, ca 1, gb_89), (ye_75, 172, 40, ca 1, ge_89), (wk, 140, 1502, ca 1, fk), (wi, 141, 1502, ca 1, fi), (wz, 142, 1502, ca 1, fz), (jkf, 144, 1502, ca 1, fa), (jks, 145, 1502, ca 1, fs)]) [0, 1, 2, 3, 4, 5, 6] rfl (I1 := [([(2, 0), (2, 1)], jOl (dC, dI) G0 2 [bo, ou] s.heap), (jFy, jYb dC dI G_47), (jFl, jLs dC dI ca G_47 3 none)]) [1, 2, 3] rfl
                        clear hh_94
                        have hh_99 := hh_98.addI (jDcc.ie hF_97)
                        clear hh_98
                        refine lv_aload hx hb dX11_changeDocument_239 (lv_at hl 4 rfl) ?_
                        refine j7_read hx hb hown hK (C := RX1) (T := TX1) (N := 17) rfl hly_3_10 hlk_171 (hh_99.at 0 rfl) dX11_changeDocument_241 ?_
                        refine lv_aload hx hb dX11_changeDocument_244 (lv_at hl 4 rfl) ?_
                        refine j7_read hx hb hown hK (C := RX1) (T := TX1) (N := 17) rfl hly_3_4 hlk_168 (hh_99.at 1 rfl) dX11_changeDocument_246 ?_
                        refine lv_icmp_ne (tgt := 259) hx hb dX11_changeDocument_249 (by decide) (fun c_100 => ?_) (fun c_100 => ?_)
                        · skip
                          have c_100' : qk_94.toInt ≠ qs_89.toInt := jb_ne (rfl) (rfl) c_100
                          try clear hsz_94 htt_94 hrc_94 hrs_94
                          have hsz_101 := hh_99.2.2.2.2.2.1
                          have htt_101 := hh_99.2.2.2.2.2.2.1
                          refine W.room (fun hrc_101 hrs_101 => ?_)
                          refine W.widen (k := LC - s.heap.size) (n := LS - jTot s.heap) (by omega) (by omega) ?_
                          rw [hQ]
                          exact W.vret hx hb hr (fun t ht hW => ⟨⟨(qc_47, qa_47, m_qa_47, phn_97, G_47), rfl, by (try dsimp only); exact ⟨(by first | (with_reducible assumption) | omega | rfl | fail), (by first | (with_reducible assumption) | omega | rfl | fail), (by first | (with_reducible assumption) | omega | rfl | fail), (by first | (with_reducible assumption) | omega | rfl | fail), (by first | assumption | fail | omega), (by first | (with_reducible assumption) | omega | rfl | fail)⟩, ⟨hh_99.ra (by first | (simp only; omega) | omega) (by first | (simp only; omega) | omega) (M1 := [(bo, 2, 1, .int qc_47), (bo, 2, 0, .ref qa_47)]) [10, 12] rfl ht, hgq_47_0, hNn_47, by rw [ht]; exact hh_99.iv 1 rfl, by rw [ht]; exact hh_99.2.2.2.2.2.2.2.2.sub (L1 := [(jFy, jYb dC dI G_47), (jFl, jLs dC dI ca G_47 3 none), (jFdo, jDcc dC dI ca G_47 none phn_97)]) [2, 3, 0] rfl⟩⟩, by rw [ht]; try exact hh_99.1.1, fun q h9 hq => by rw [ht]; try exact hh_99.1.2.1 q h9 hq⟩) hh_99.1.2.2 dX11_changeDocument_259
                        · skip
                          have c_100' : qk_94.toInt = qs_89.toInt := jb_ne_n (rfl) (rfl) c_100
                          first | (have hr_95p_3q := hr_95p_3.resolve_left (by omega); clear hr_95p_3) | (have hr_95p_3q := hr_95p_3.resolve_right (by omega); clear hr_95p_3) | skip
                          refine lv_aload_n hx hb dX11_changeDocument_252 rfl (lv_at hl 0 rfl) ?_
                          refine lv_aload hx hb dX11_changeDocument_253 (lv_at hl 4 rfl) ?_
                          refine lv_iconst (v := 1) hx hb dX11_changeDocument_255 (by decide) ?_
                          try clear hsz_94 htt_94 hrc_94 hrs_94
                          have hsz_102 := hh_99.2.2.2.2.2.1
                          have htt_102 := hh_99.2.2.2.2.2.2.1
                          refine W.room (fun hrc_102 hrs_102 => ?_)
                          refine va_callv (A0 := jA base) (H0 := s.heap) (va_runV (As := [.ref ret_12, .int 1]) (rest := []) ⟨hx, hb, hml, hown, hts⟩ (uX11_publish l dC dI ca base B hB hAp hB2 hB3 hB4 hB11 hB13 hB101 hB171 hB172 hB196 hB210 G_47 H_94 r0 ret_12 1 bo qc_47 qa_47 m_qa_47 ou LC LS) (cwV 2 hts (jgV (jWr_39 _ (List.mem_of_getElem? (i := 19) rfl)) (jWr_39 _ (List.mem_of_getElem? (i := 20) rfl)) (jWr_39 _ (List.mem_of_getElem? (i := 21) rfl)) (jWr_1 _ (List.mem_of_getElem? (i := 2) rfl)) (jWr_39 _ (List.mem_of_getElem? (i := 22) rfl))) rfl rfl rfl (by decide +kernel) ⟨by rw [← hR]; exact Nat.le_of_ble_eq_true rfl, by rw [← hR]; exact Nat.le_of_ble_eq_true rfl⟩) ⟨fun a U g mk q => by obtain ⟨q0, q1, q2, qK, q10, q11, q12, q13, q14, q15, q16, q17, q18, q19⟩ := q; exact ⟨q0, q1, q2, jG.calling g mk a qK, (va_K.moved (Vm.Alike.refl U.vm) q10), q11, q12, q13, q14, q15, q16, q17, q18, q19⟩, hh_99.recv (C := RX11) (T := TX11) (N := 19) hB13 rfl (by decide) hg_49 hK, fun U hU hW => ⟨rfl, hU, hh_99.2.1, hG.step hW hU hh_99.1, va_K.moved hW.alike hK2, hg_50, hg_49, (Or.inr rfl), hg_51, hgq_47_0, hg_52, (hh_99.2.2.1.sub (L1 := [(r0, 13, 4, .ref bo), (bo, 2, 1, .int qc_47), (bo, 2, 0, .ref qa_47), (r0, 13, 3, .ref ou)]) [13, 10, 12, 14] rfl), (hh_99.2.2.2.2.2.2.2.2.sub (L1 := [(jFy, jYb dC dI G_47)]) [2] rfl), (by omega), (by omega), ⟨(by first | (with_reducible assumption) | omega | rfl | fail), (by first | (with_reducible assumption) | omega | rfl | fail), (by first | (with_reducible assumption) | omega | rfl | fail), (by first | (with_reducible assumption) | omega | rfl | fail), (by first | assumption | fail | omega)⟩⟩⟩ rfl rfl hl.1 rfl (lv_room (Nat.le_of_ble_eq_true rfl)) dX11_changeDocument_256 ⟨by rw [hRc]; omega, by rw [hRs]; omega⟩) hh_99.1 (fun q _ h => h) (fun q h => h) (fun u_102 t_102 H_102 locs_102 ht_102 hvm_102 hr_103 hb_102 hz_102 hk_102 hS_102 => ?_)
                          obtain ⟨qc_102, qa_102, m_qa_102, G_102⟩ := u_102
                          rw [ht_102] at hb_102
                          simp only at hb_102
                          obtain ⟨⟨hb_1021, hb_1022, hb_1023, hb_1024, hb_1025, hb_1026⟩, hgq_102_0, hN_102, hbO_102, hbE_102⟩ := hb_102
                          have hh_102 : jSt (dC, dI) B base G0 G_102 EX11_changeDocument s.heap ((0 + ((m_qa_47 - n_pa) / 16)) + ((m_qa_102 - m_qa_47) / 16)) ((0 + (2 * (m_qa_47 - n_pa))) + (2 * (m_qa_102 - m_qa_47))) [(bo, 2, 1, .int qc_102), (bo, 2, 0, .ref qa_102), (ret_12, 3, 10, .int qk_94), (ret_12, 3, 4, .int qs_89), (ret_12, 3, 3, .int length_93), (kernel_85, 7, 1, .ref syntax_88), (r0, 13, 5, .ref kernel_85), (ret_12, 3, 11, .null), (ret_12, 3, 5, .ref yb_75), (ret_12, 3, 6, .ref ye_75), (ret_12, 3, 1, .int r_73), (r0, 13, 15, .ref spare_69), (op, 1, 2, .int qz_47), (r0, 13, 4, .ref bo), (r0, 13, 3, .ref ou), (r0, 13, 2, .ref js), (js, 6, 7, .int pv), (js, 6, 8, .int pu), (js, 6, 0, .ref wk), (js, 6, 1, .ref wi), (js, 6, 2, .ref wz), (js, 6, 4, .ref jkf), (js, 6, 5, .ref jks), (r0, 13, 1, .ref fm), (fm, 4, 1, .int fl), (r0, 13, 7, .ref op)] [(yb_75, 171, 40, ca 1, gb_89), (ye_75, 172, 40, ca 1, ge_89), (wk, 140, 1502, ca 1, fk), (wi, 141, 1502, ca 1, fi), (wz, 142, 1502, ca 1, fz), (jkf, 144, 1502, ca 1, fa), (jks, 145, 1502, ca 1, fs)] [(jFdo, jDcc dC dI ca G_47 none phn_97), (jFl, jLs dC dI ca G_47 3 none)] H_102 locs_102 := (hh_99.callG hb_1021 hb_1022 hb_1023 hb_1024 hb_1025 hS_102 rfl (L1 := [(ret_12, 3, 10, .int qk_94), (ret_12, 3, 4, .int qs_89), (ret_12, 3, 3, .int length_93), (kernel_85, 7, 1, .ref syntax_88), (r0, 13, 5, .ref kernel_85), (ret_12, 3, 11, .null), (ret_12, 3, 5, .ref yb_75), (ret_12, 3, 6, .ref ye_75), (ret_12, 3, 1, .int r_73), (r0, 13, 15, .ref spare_69), (op, 1, 2, .int qz_47), (r0, 13, 4, .ref bo), (r0, 13, 3, .ref ou), (r0, 13, 2, .ref js), (js, 6, 7, .int pv), (js, 6, 8, .int pu), (js, 6, 0, .ref wk), (js, 6, 1, .ref wi), (js, 6, 2, .ref wz), (js, 6, 4, .ref jkf), (js, 6, 5, .ref jks), (r0, 13, 1, .ref fm), (fm, 4, 1, .int fl), (r0, 13, 7, .ref op)]) [0, 1, 2, 3, 4, 5, 6, 7, 8, 9, 11, 13, 14, 15, 16, 17, 18, 19, 20, 21, 22, 23, 24, 25] rfl rfl (M1 := [(yb_75, 171, 40, ca 1, gb_89), (ye_75, 172, 40, ca 1, ge_89), (wk, 140, 1502, ca 1, fk), (wi, 141, 1502, ca 1, fi), (wz, 142, 1502, ca 1, fz), (jkf, 144, 1502, ca 1, fa), (jks, 145, 1502, ca 1, fs)]) [0, 1, 2, 3, 4, 5, 6] rfl rfl (I1 := [(jFdo, jDcc dC dI ca G_47 none phn_97), (jFl, jLs dC dI ca G_47 3 none)]) [0, 3] rfl rfl).more hb_1026
                          have hNn_102 : (jNk [0, 1, 2, 3, 4, 5, 6, 7, 8, 9, 10, 11, 12, 13, 14, 15, 16]) G0 G_102 := (hNn_47).tr hN_102
                          have hg_104 := hb_1022 _ _ hg_49
                          have hg_105 := hb_1022 _ _ hg_50
                          have hg_106 := hb_1022 _ _ hg_syntax_88
                          have hg_107 := hb_1022 _ _ hg_kernel_85
                          have hg_108 := hb_1022 _ _ hgb_75
                          have hg_109 := hb_1022 _ _ hge_75
                          have hg_110 := hb_1022 _ _ hg_spare_69
                          have hg_111 := hb_1022 _ _ hg_51
                          have hg_112 := hb_1022 _ _ hg_52
                          have hg_113 := hb_1022 _ _ hg_53
                          have hg_114 := hb_1022 _ _ hg_54
                          have hg_115 := hb_1022 _ _ hg_55
                          have hg_116 := hb_1022 _ _ hg_56
                          have hg_117 := hb_1022 _ _ hg_57
                          have hg_118 := hb_1022 _ _ hg_58
                          have hg_119 := hb_1022 _ _ hg_59
                          have hg_120 := hb_1022 _ _ hg_60
                          have hd_121 := jDcc.grow (hh_102.iv 0 rfl) hb_1022 hN_102 (by decide)
                          have hh_122 := hh_102.sub (L1 := [(bo, 2, 1, .int qc_102), (bo, 2, 0, .ref qa_102), (ret_12, 3, 10, .int qk_94), (ret_12, 3, 4, .int qs_89), (ret_12, 3, 3, .int length_93), (kernel_85, 7, 1, .ref syntax_88), (r0, 13, 5, .ref kernel_85), (ret_12, 3, 11, .null), (ret_12, 3, 5, .ref yb_75), (ret_12, 3, 6, .ref ye_75), (ret_12, 3, 1, .int r_73), (r0, 13, 15, .ref spare_69), (op, 1, 2, .int qz_47), (r0, 13, 4, .ref bo), (r0, 13, 3, .ref ou), (r0, 13, 2, .ref js), (js, 6, 7, .int pv), (js, 6, 8, .int pu), (js, 6, 0, .ref wk), (js, 6, 1, .ref wi), (js, 6, 2, .ref wz), (js, 6, 4, .ref jkf), (js, 6, 5, .ref jks), (r0, 13, 1, .ref fm), (fm, 4, 1, .int fl), (r0, 13, 7, .ref op)]) [0, 1, 2, 3, 4, 5, 6, 7, 8, 9, 10, 11, 12, 13, 14, 15, 16, 17, 18, 19, 20, 21, 22, 23, 24, 25] rfl (M1 := [(yb_75, 171, 40, ca 1, gb_89), (ye_75, 172, 40, ca 1, ge_89), (wk, 140, 1502, ca 1, fk), (wi, 141, 1502, ca 1, fi), (wz, 142, 1502, ca 1, fz), (jkf, 144, 1502, ca 1, fa), (jks, 145, 1502, ca 1, fs)]) [0, 1, 2, 3, 4, 5, 6] rfl (I1 := [(jFl, jLs dC dI ca G_47 3 none)]) [1] rfl
                          clear hh_102
                          have hh_123 := hh_122.addI (jDcc.ie hd_121)
                          clear hh_122
                          have hd_124 := jLs.grow (hh_123.iv 1 rfl) hb_1022 hN_102 (by decide)
                          have hh_125 := hh_123.sub (L1 := [(bo, 2, 1, .int qc_102), (bo, 2, 0, .ref qa_102), (ret_12, 3, 10, .int qk_94), (ret_12, 3, 4, .int qs_89), (ret_12, 3, 3, .int length_93), (kernel_85, 7, 1, .ref syntax_88), (r0, 13, 5, .ref kernel_85), (ret_12, 3, 11, .null), (ret_12, 3, 5, .ref yb_75), (ret_12, 3, 6, .ref ye_75), (ret_12, 3, 1, .int r_73), (r0, 13, 15, .ref spare_69), (op, 1, 2, .int qz_47), (r0, 13, 4, .ref bo), (r0, 13, 3, .ref ou), (r0, 13, 2, .ref js), (js, 6, 7, .int pv), (js, 6, 8, .int pu), (js, 6, 0, .ref wk), (js, 6, 1, .ref wi), (js, 6, 2, .ref wz), (js, 6, 4, .ref jkf), (js, 6, 5, .ref jks), (r0, 13, 1, .ref fm), (fm, 4, 1, .int fl), (r0, 13, 7, .ref op)]) [0, 1, 2, 3, 4, 5, 6, 7, 8, 9, 10, 11, 12, 13, 14, 15, 16, 17, 18, 19, 20, 21, 22, 23, 24, 25] rfl (M1 := [(yb_75, 171, 40, ca 1, gb_89), (ye_75, 172, 40, ca 1, ge_89), (wk, 140, 1502, ca 1, fk), (wi, 141, 1502, ca 1, fi), (wz, 142, 1502, ca 1, fz), (jkf, 144, 1502, ca 1, fa), (jks, 145, 1502, ca 1, fs)]) [0, 1, 2, 3, 4, 5, 6] rfl (I1 := [(jFdo, jDcc dC dI ca G_102 none phn_97)]) [0] rfl
                          clear hh_123
                          have hh_126 := hh_125.addI (jLs.ie hd_124)
                          clear hh_125
                          have hh_127 := hh_126.addIs hbE_102
                          have hd_128 := jOl.trL (hh_99.iv 1 rfl) hh_99.2.2.2.2.1 hbO_102 (by simp)
                          have hh_129 := hh_127.addI (jOl.ie (dC := dC) (dI := dI) (G0 := G0) (k := 2) (rs := [bo, ou]) (H0 := s.heap) (F := [(2, 0), (2, 1)]) (C := RX0) (T := TX0) (N := 2) rfl (by decide) hh_127.2.2.2.2.1 (hd_128))
                          clear hh_127
                          try simp only at hr_103
                          obtain ⟨hr_103_0, hr_103_1, hr_103_2, hr_103_3, hr_103_4⟩ := hr_103
                          try clear hsz_102 htt_102 hrc_102 hrs_102
                          have hsz_130 := hh_129.2.2.2.2.2.1
                          have htt_130 := hh_129.2.2.2.2.2.2.1
                          refine W.room (fun hrc_130 hrs_130 => ?_)
                          refine W.widen (k := LC - s.heap.size) (n := LS - jTot s.heap) (by omega) (by omega) ?_
                          rw [hQ]
                          exact W.vret hx hb hr (fun t ht hW => ⟨⟨(qc_102, qa_102, m_qa_102, phn_97, G_102), rfl, by (try dsimp only); exact ⟨(by first | (with_reducible assumption) | omega | rfl | fail), (by first | (with_reducible assumption) | omega | rfl | fail), (by first | (with_reducible assumption) | omega | rfl | fail), (by first | (with_reducible assumption) | omega | rfl | fail), (by first | assumption | fail | omega), (by first | (with_reducible assumption) | omega | rfl | fail)⟩, ⟨hh_129.ra (by first | (simp only; omega) | omega) (by first | (simp only; omega) | omega) (M1 := [(bo, 2, 1, .int qc_102), (bo, 2, 0, .ref qa_102)]) [0, 1] rfl ht, hgq_102_0, hNn_102, by rw [ht]; exact hh_129.iv 0 rfl, by rw [ht]; exact hh_129.2.2.2.2.2.2.2.2.sub (L1 := [(jFy, jYb dC dI G_102), (jFl, jLs dC dI ca G_102 3 none), (jFdo, jDcc dC dI ca G_102 none phn_97)]) [1, 2, 3] rfl⟩⟩, by rw [ht]; try exact hh_129.1.1, fun q h9 hq => by rw [ht]; try exact hh_129.1.2.1 q h9 hq⟩) hh_129.1.2.2 dX11_changeDocument_259
                      · skip
                        have c_96' : r_95.toInt = 0 := jb_ne_n (rfl) ((by decide)) c_96
                        first | (have hr_95p_3q := hr_95p_3.resolve_left (by omega); clear hr_95p_3) | (have hr_95p_3q := hr_95p_3.resolve_right (by omega); clear hr_95p_3) | skip
                        refine lv_aload_n hx hb dX11_changeDocument_233 rfl (lv_at hl 0 rfl) ?_
                        refine lv_aload hx hb dX11_changeDocument_234 (lv_at hl 4 rfl) ?_
                        try clear hsz_94 htt_94 hrc_94 hrs_94
                        have hsz_131 := hh_94.2.2.2.2.2.1
                        have htt_131 := hh_94.2.2.2.2.2.2.1
                        refine W.room (fun hrc_131 hrs_131 => ?_)
                        refine va_callv (A0 := jA base) (H0 := s.heap) (va_runV (As := [.ref ret_12]) (rest := []) ⟨hx, hb, hml, hown, hts⟩ (uX11_releaseE l dC dI ca base B hB hAp hB3 hB11 hB13 hB101 hB212 G_47 H_94 r0 ret_12 yb_75 ye_75 (pho_75)) (cwV 1 hts (jgV (jWr_43 _ (List.mem_of_getElem? (i := 3) rfl)) (jWr_43 _ (List.mem_of_getElem? (i := 4) rfl)) (jWr_43 _ (List.mem_of_getElem? (i := 5) rfl)) (jWr_1 _ (List.mem_of_getElem? (i := 2) rfl)) (jWr_43 _ (List.mem_of_getElem? (i := 6) rfl))) rfl rfl rfl (by decide +kernel) ⟨by rw [← hR]; exact Nat.le_of_ble_eq_true rfl, by rw [← hR]; exact Nat.le_of_ble_eq_true rfl⟩) ⟨fun a U g mk q => by obtain ⟨q0, q1, q2, qK, q10, q11, q12, q13, q14, q15, q16, q17⟩ := q; exact ⟨q0, q1, q2, jG.calling g mk a qK, (va_K.moved (Vm.Alike.refl U.vm) q10), q11, q12, q13, q14, q15, q16, q17⟩, hh_94.recv (C := RX11) (T := TX11) (N := 19) hB13 rfl (by decide) hg_49 hK, fun U hU hW => ⟨rfl, hU, hh_94.2.1, hG.step hW hU hh_94.1, va_K.moved hW.alike hK2, hg_49, hg_50, hgb_75, hge_75, (hh_94.2.2.1.sub (L1 := [(ret_12, 3, 5, .ref yb_75), (ret_12, 3, 6, .ref ye_75)]) [6, 7] rfl), (hh_94.2.2.2.2.2.2.2.2.sub (L1 := [(jFdo, jDcc dC dI ca G_47 (some ret_12) pho_75)]) [0] rfl), trivial⟩⟩ rfl rfl hl.1 rfl (lv_room (Nat.le_of_ble_eq_true rfl)) dX11_changeDocument_236 ⟨by rw [hRc]; show _ + 0 ≤ _; omega, by rw [hRs]; show _ + 0 ≤ _; omega⟩) hh_94.1 (fun q _ h => h) (fun q h => h) (fun u_131 t_131 H_131 locs_131 ht_131 hvm_131 hr_132 hb_131 hz_131 hk_131 hS_131 => ?_)
                        rw [ht_131] at hb_131
                        obtain ⟨hb_131, hbE_131⟩ := hb_131
                        obtain ⟨hb_1311, hb_1312, hb_1313, hb_1314, hb_1315⟩ := hb_131
                        have hh_131 : jSt (dC, dI) B base G0 G_47 EX11_changeDocument s.heap (0 + ((m_qa_47 - n_pa) / 16)) (0 + (2 * (m_qa_47 - n_pa))) [(ret_12, 3, 11, .null), (ret_12, 3, 10, .int qk_94), (ret_12, 3, 4, .int qs_89), (ret_12, 3, 3, .int length_93), (kernel_85, 7, 1, .ref syntax_88), (r0, 13, 5, .ref kernel_85), (ret_12, 3, 5, .ref yb_75), (ret_12, 3, 6, .ref ye_75), (ret_12, 3, 1, .int r_73), (r0, 13, 15, .ref spare_69), (bo, 2, 1, .int qc_47), (op, 1, 2, .int qz_47), (bo, 2, 0, .ref qa_47), (r0, 13, 4, .ref bo), (r0, 13, 3, .ref ou), (r0, 13, 2, .ref js), (js, 6, 7, .int pv), (js, 6, 8, .int pu), (js, 6, 0, .ref wk), (js, 6, 1, .ref wi), (js, 6, 2, .ref wz), (js, 6, 4, .ref jkf), (js, 6, 5, .ref jks), (r0, 13, 1, .ref fm), (fm, 4, 1, .int fl), (r0, 13, 7, .ref op)] [(yb_75, 171, 40, ca 1, gb_89), (ye_75, 172, 40, ca 1, ge_89), (wk, 140, 1502, ca 1, fk), (wi, 141, 1502, ca 1, fi), (wz, 142, 1502, ca 1, fz), (jkf, 144, 1502, ca 1, fa), (jks, 145, 1502, ca 1, fs)] [(jFdo, jDcc dC dI ca G_47 (some ret_12) pho_75), ([(2, 0), (2, 1)], jOl (dC, dI) G0 2 [bo, ou] s.heap), (jFy, jYb dC dI G_47), (jFl, jLs dC dI ca G_47 3 none)] H_131 locs_131 := (((hh_94.call hb_1311 hb_1312 hb_1313 hb_1314 hS_131 rfl (L1 := [(ret_12, 3, 10, .int qk_94), (ret_12, 3, 4, .int qs_89), (ret_12, 3, 3, .int length_93), (kernel_85, 7, 1, .ref syntax_88), (r0, 13, 5, .ref kernel_85), (ret_12, 3, 5, .ref yb_75), (ret_12, 3, 6, .ref ye_75), (ret_12, 3, 1, .int r_73), (r0, 13, 15, .ref spare_69), (bo, 2, 1, .int qc_47), (op, 1, 2, .int qz_47), (bo, 2, 0, .ref qa_47), (r0, 13, 4, .ref bo), (r0, 13, 3, .ref ou), (r0, 13, 2, .ref js), (js, 6, 7, .int pv), (js, 6, 8, .int pu), (js, 6, 0, .ref wk), (js, 6, 1, .ref wi), (js, 6, 2, .ref wz), (js, 6, 4, .ref jkf), (js, 6, 5, .ref jks), (r0, 13, 1, .ref fm), (fm, 4, 1, .int fl), (r0, 13, 7, .ref op)]) [0, 1, 2, 3, 4, 6, 7, 8, 9, 10, 11, 12, 13, 14, 15, 16, 17, 18, 19, 20, 21, 22, 23, 24, 25] rfl rfl (M1 := [(yb_75, 171, 40, ca 1, gb_89), (ye_75, 172, 40, ca 1, ge_89), (wk, 140, 1502, ca 1, fk), (wi, 141, 1502, ca 1, fi), (wz, 142, 1502, ca 1, fz), (jkf, 144, 1502, ca 1, fa), (jks, 145, 1502, ca 1, fs)]) [0, 1, 2, 3, 4, 5, 6] rfl rfl (I1 := [([(2, 0), (2, 1)], jOl (dC, dI) G0 2 [bo, ou] s.heap), (jFy, jYb dC dI G_47), (jFl, jLs dC dI ca G_47 3 none)]) [1, 2, 3] rfl rfl).more hb_1315)).addIs hbE_131
                        clear hh_94 ht_131 hvm_131 hz_131 hk_131 hS_131 hb_1311 hb_1312 hb_1313 hb_1314 hb_1315
                        clear  hbE_131
                        have hjg := jEd.ge hr_90_2 (k := qk_94.toInt) (by omega)
                        have hjh := jSn.ge hr_90_2 (k := qk_94.toInt) (by omega)
                        obtain ⟨phn_133, hphn_133⟩ : ∃ q : Nat, q = pho_75 + (575 * (qs_89.toInt - qk_94.toInt) + (1500 - jEd ge_89 qk_94.toInt)).toNat := ⟨_, rfl⟩
                        have hF_133 := jDcc.full (ph1 := phn_133) (hh_131.iv 0 rfl) hg_50 (hh_131.at 6 rfl) (hh_131.at 7 rfl) ⟨(hh_131.2.2.1.sub (L1 := [(ret_12, 3, 4, .int qs_89), (ret_12, 3, 10, .int qk_94), (ret_12, 3, 11, .null)]) [2, 1, 0] rfl), (hh_131.2.2.2.2.2.2.2.1.sub (L1 := [(yb_75, 171, 40, ca 1, gb_89), (ye_75, 172, 40, ca 1, ge_89)]) [0, 1] rfl), (hr_90_2.mono (by omega)), by omega⟩ (w := (575 * (qs_89.toInt - qk_94.toInt) + (1500 - jEd ge_89 qk_94.toInt)).toNat) (fun _ => jPo.mkN (by omega)) (by omega) (fun _ => by omega)
                        have hh_134 := hh_131.sub (L1 := [(ret_12, 3, 11, .null), (ret_12, 3, 10, .int qk_94), (ret_12, 3, 4, .int qs_89), (ret_12, 3, 3, .int length_93), (kernel_85, 7, 1, .ref syntax_88), (r0, 13, 5, .ref kernel_85), (ret_12, 3, 5, .ref yb_75), (ret_12, 3, 6, .ref ye_75), (ret_12, 3, 1, .int r_73), (r0, 13, 15, .ref spare_69), (bo, 2, 1, .int qc_47), (op, 1, 2, .int qz_47), (bo, 2, 0, .ref qa_47), (r0, 13, 4, .ref bo), (r0, 13, 3, .ref ou), (r0, 13, 2, .ref js), (js, 6, 7, .int pv), (js, 6, 8, .int pu), (js, 6, 0, .ref wk), (js, 6, 1, .ref wi), (js, 6, 2, .ref wz), (js, 6, 4, .ref jkf), (js, 6, 5, .ref jks), (r0, 13, 1, .ref fm), (fm, 4, 1, .int fl), (r0, 13, 7, .ref op)]) [0, 1, 2, 3, 4, 5, 6, 7, 8, 9, 10, 11, 12, 13, 14, 15, 16, 17, 18, 19, 20, 21, 22, 23, 24, 25] rfl (M1 := [(yb_75, 171, 40, ca 1, gb_89), (ye_75, 172, 40, ca 1, ge_89), (wk, 140, 1502, ca 1, fk), (wi, 141, 1502, ca 1, fi), (wz, 142, 1502, ca 1, fz), (jkf, 144, 1502, ca 1, fa), (jks, 145, 1502, ca 1, fs)]) [0, 1, 2, 3, 4, 5, 6] rfl (I1 := [([(2, 0), (2, 1)], jOl (dC, dI) G0 2 [bo, ou] s.heap), (jFy, jYb dC dI G_47), (jFl, jLs dC dI ca G_47 3 none)]) [1, 2, 3] rfl
                        clear hh_131
                        have hh_135 := hh_134.addI (jDcc.ie hF_133)
                        clear hh_134
                        refine lv_aload hx hb dX11_changeDocument_239 (lv_at hl 4 rfl) ?_
                        refine j7_read hx hb hown hK (C := RX1) (T := TX1) (N := 17) rfl hly_3_10 hlk_171 (hh_135.at 1 rfl) dX11_changeDocument_241 ?_
                        refine lv_aload hx hb dX11_changeDocument_244 (lv_at hl 4 rfl) ?_
                        refine j7_read hx hb hown hK (C := RX1) (T := TX1) (N := 17) rfl hly_3_4 hlk_168 (hh_135.at 2 rfl) dX11_changeDocument_246 ?_
                        refine lv_icmp_ne (tgt := 259) hx hb dX11_changeDocument_249 (by decide) (fun c_136 => ?_) (fun c_136 => ?_)
                        · skip
                          have c_136' : qk_94.toInt ≠ qs_89.toInt := jb_ne (rfl) (rfl) c_136
                          try clear hsz_131 htt_131 hrc_131 hrs_131
                          have hsz_137 := hh_135.2.2.2.2.2.1
                          have htt_137 := hh_135.2.2.2.2.2.2.1
                          refine W.room (fun hrc_137 hrs_137 => ?_)
                          refine W.widen (k := LC - s.heap.size) (n := LS - jTot s.heap) (by omega) (by omega) ?_
                          rw [hQ]
                          exact W.vret hx hb hr (fun t ht hW => ⟨⟨(qc_47, qa_47, m_qa_47, phn_133, G_47), rfl, by (try dsimp only); exact ⟨(by first | (with_reducible assumption) | omega | rfl | fail), (by first | (with_reducible assumption) | omega | rfl | fail), (by first | (with_reducible assumption) | omega | rfl | fail), (by first | (with_reducible assumption) | omega | rfl | fail), (by first | assumption | fail | omega), (by first | (with_reducible assumption) | omega | rfl | fail)⟩, ⟨hh_135.ra (by first | (simp only; omega) | omega) (by first | (simp only; omega) | omega) (M1 := [(bo, 2, 1, .int qc_47), (bo, 2, 0, .ref qa_47)]) [10, 12] rfl ht, hgq_47_0, hNn_47, by rw [ht]; exact hh_135.iv 1 rfl, by rw [ht]; exact hh_135.2.2.2.2.2.2.2.2.sub (L1 := [(jFy, jYb dC dI G_47), (jFl, jLs dC dI ca G_47 3 none), (jFdo, jDcc dC dI ca G_47 none phn_133)]) [2, 3, 0] rfl⟩⟩, by rw [ht]; try exact hh_135.1.1, fun q h9 hq => by rw [ht]; try exact hh_135.1.2.1 q h9 hq⟩) hh_135.1.2.2 dX11_changeDocument_259
                        · skip
                          have c_136' : qk_94.toInt = qs_89.toInt := jb_ne_n (rfl) (rfl) c_136
                          first | (have hr_95p_3q := hr_95p_3.resolve_left (by omega); clear hr_95p_3) | (have hr_95p_3q := hr_95p_3.resolve_right (by omega); clear hr_95p_3) | skip
                          refine lv_aload_n hx hb dX11_changeDocument_252 rfl (lv_at hl 0 rfl) ?_
                          refine lv_aload hx hb dX11_changeDocument_253 (lv_at hl 4 rfl) ?_
                          refine lv_iconst (v := 1) hx hb dX11_changeDocument_255 (by decide) ?_
                          try clear hsz_131 htt_131 hrc_131 hrs_131
                          have hsz_138 := hh_135.2.2.2.2.2.1
                          have htt_138 := hh_135.2.2.2.2.2.2.1
                          refine W.room (fun hrc_138 hrs_138 => ?_)
                          refine va_callv (A0 := jA base) (H0 := s.heap) (va_runV (As := [.ref ret_12, .int 1]) (rest := []) ⟨hx, hb, hml, hown, hts⟩ (uX11_publish l dC dI ca base B hB hAp hB2 hB3 hB4 hB11 hB13 hB101 hB171 hB172 hB196 hB210 G_47 H_131 r0 ret_12 1 bo qc_47 qa_47 m_qa_47 ou LC LS) (cwV 2 hts (jgV (jWr_39 _ (List.mem_of_getElem? (i := 19) rfl)) (jWr_39 _ (List.mem_of_getElem? (i := 20) rfl)) (jWr_39 _ (List.mem_of_getElem? (i := 21) rfl)) (jWr_1 _ (List.mem_of_getElem? (i := 2) rfl)) (jWr_39 _ (List.mem_of_getElem? (i := 22) rfl))) rfl rfl rfl (by decide +kernel) ⟨by rw [← hR]; exact Nat.le_of_ble_eq_true rfl, by rw [← hR]; exact Nat.le_of_ble_eq_true rfl⟩) ⟨fun a U g mk q => by obtain ⟨q0, q1, q2, qK, q10, q11, q12, q13, q14, q15, q16, q17, q18, q19⟩ := q; exact ⟨q0, q1, q2, jG.calling g mk a qK, (va_K.moved (Vm.Alike.refl U.vm) q10), q11, q12, q13, q14, q15, q16, q17, q18, q19⟩, hh_135.recv (C := RX11) (T := TX11) (N := 19) hB13 rfl (by decide) hg_49 hK, fun U hU hW => ⟨rfl, hU, hh_135.2.1, hG.step hW hU hh_135.1, va_K.moved hW.alike hK2, hg_50, hg_49, (Or.inr rfl), hg_51, hgq_47_0, hg_52, (hh_135.2.2.1.sub (L1 := [(r0, 13, 4, .ref bo), (bo, 2, 1, .int qc_47), (bo, 2, 0, .ref qa_47), (r0, 13, 3, .ref ou)]) [13, 10, 12, 14] rfl), (hh_135.2.2.2.2.2.2.2.2.sub (L1 := [(jFy, jYb dC dI G_47)]) [2] rfl), (by omega), (by omega), ⟨(by first | (with_reducible assumption) | omega | rfl | fail), (by first | (with_reducible assumption) | omega | rfl | fail), (by first | (with_reducible assumption) | omega | rfl | fail), (by first | (with_reducible assumption) | omega | rfl | fail), (by first | assumption | fail | omega)⟩⟩⟩ rfl rfl hl.1 rfl (lv_room (Nat.le_of_ble_eq_true rfl)) dX11_changeDocument_256 ⟨by rw [hRc]; omega, by rw [hRs]; omega⟩) hh_135.1 (fun q _ h => h) (fun q h => h) (fun u_138 t_138 H_138 locs_138 ht_138 hvm_138 hr_139 hb_138 hz_138 hk_138 hS_138 => ?_)
                          obtain ⟨qc_138, qa_138, m_qa_138, G_138⟩ := u_138
                          rw [ht_138] at hb_138
                          simp only at hb_138
                          obtain ⟨⟨hb_1381, hb_1382, hb_1383, hb_1384, hb_1385, hb_1386⟩, hgq_138_0, hN_138, hbO_138, hbE_138⟩ := hb_138
                          have hh_138 : jSt (dC, dI) B base G0 G_138 EX11_changeDocument s.heap ((0 + ((m_qa_47 - n_pa) / 16)) + ((m_qa_138 - m_qa_47) / 16)) ((0 + (2 * (m_qa_47 - n_pa))) + (2 * (m_qa_138 - m_qa_47))) [(bo, 2, 1, .int qc_138), (bo, 2, 0, .ref qa_138), (ret_12, 3, 11, .null), (ret_12, 3, 10, .int qk_94), (ret_12, 3, 4, .int qs_89), (ret_12, 3, 3, .int length_93), (kernel_85, 7, 1, .ref syntax_88), (r0, 13, 5, .ref kernel_85), (ret_12, 3, 5, .ref yb_75), (ret_12, 3, 6, .ref ye_75), (ret_12, 3, 1, .int r_73), (r0, 13, 15, .ref spare_69), (op, 1, 2, .int qz_47), (r0, 13, 4, .ref bo), (r0, 13, 3, .ref ou), (r0, 13, 2, .ref js), (js, 6, 7, .int pv), (js, 6, 8, .int pu), (js, 6, 0, .ref wk), (js, 6, 1, .ref wi), (js, 6, 2, .ref wz), (js, 6, 4, .ref jkf), (js, 6, 5, .ref jks), (r0, 13, 1, .ref fm), (fm, 4, 1, .int fl), (r0, 13, 7, .ref op)] [(yb_75, 171, 40, ca 1, gb_89), (ye_75, 172, 40, ca 1, ge_89), (wk, 140, 1502, ca 1, fk), (wi, 141, 1502, ca 1, fi), (wz, 142, 1502, ca 1, fz), (jkf, 144, 1502, ca 1, fa), (jks, 145, 1502, ca 1, fs)] [(jFdo, jDcc dC dI ca G_47 none phn_133), (jFl, jLs dC dI ca G_47 3 none)] H_138 locs_138 := (hh_135.callG hb_1381 hb_1382 hb_1383 hb_1384 hb_1385 hS_138 rfl (L1 := [(ret_12, 3, 11, .null), (ret_12, 3, 10, .int qk_94), (ret_12, 3, 4, .int qs_89), (ret_12, 3, 3, .int length_93), (kernel_85, 7, 1, .ref syntax_88), (r0, 13, 5, .ref kernel_85), (ret_12, 3, 5, .ref yb_75), (ret_12, 3, 6, .ref ye_75), (ret_12, 3, 1, .int r_73), (r0, 13, 15, .ref spare_69), (op, 1, 2, .int qz_47), (r0, 13, 4, .ref bo), (r0, 13, 3, .ref ou), (r0, 13, 2, .ref js), (js, 6, 7, .int pv), (js, 6, 8, .int pu), (js, 6, 0, .ref wk), (js, 6, 1, .ref wi), (js, 6, 2, .ref wz), (js, 6, 4, .ref jkf), (js, 6, 5, .ref jks), (r0, 13, 1, .ref fm), (fm, 4, 1, .int fl), (r0, 13, 7, .ref op)]) [0, 1, 2, 3, 4, 5, 6, 7, 8, 9, 11, 13, 14, 15, 16, 17, 18, 19, 20, 21, 22, 23, 24, 25] rfl rfl (M1 := [(yb_75, 171, 40, ca 1, gb_89), (ye_75, 172, 40, ca 1, ge_89), (wk, 140, 1502, ca 1, fk), (wi, 141, 1502, ca 1, fi), (wz, 142, 1502, ca 1, fz), (jkf, 144, 1502, ca 1, fa), (jks, 145, 1502, ca 1, fs)]) [0, 1, 2, 3, 4, 5, 6] rfl rfl (I1 := [(jFdo, jDcc dC dI ca G_47 none phn_133), (jFl, jLs dC dI ca G_47 3 none)]) [0, 3] rfl rfl).more hb_1386
                          have hNn_138 : (jNk [0, 1, 2, 3, 4, 5, 6, 7, 8, 9, 10, 11, 12, 13, 14, 15, 16]) G0 G_138 := (hNn_47).tr hN_138
                          have hg_140 := hb_1382 _ _ hg_49
                          have hg_141 := hb_1382 _ _ hg_50
                          have hg_142 := hb_1382 _ _ hg_syntax_88
                          have hg_143 := hb_1382 _ _ hg_kernel_85
                          have hg_144 := hb_1382 _ _ hgb_75
                          have hg_145 := hb_1382 _ _ hge_75
                          have hg_146 := hb_1382 _ _ hg_spare_69
                          have hg_147 := hb_1382 _ _ hg_51
                          have hg_148 := hb_1382 _ _ hg_52
                          have hg_149 := hb_1382 _ _ hg_53
                          have hg_150 := hb_1382 _ _ hg_54
                          have hg_151 := hb_1382 _ _ hg_55
                          have hg_152 := hb_1382 _ _ hg_56
                          have hg_153 := hb_1382 _ _ hg_57
                          have hg_154 := hb_1382 _ _ hg_58
                          have hg_155 := hb_1382 _ _ hg_59
                          have hg_156 := hb_1382 _ _ hg_60
                          have hd_157 := jDcc.grow (hh_138.iv 0 rfl) hb_1382 hN_138 (by decide)
                          have hh_158 := hh_138.sub (L1 := [(bo, 2, 1, .int qc_138), (bo, 2, 0, .ref qa_138), (ret_12, 3, 11, .null), (ret_12, 3, 10, .int qk_94), (ret_12, 3, 4, .int qs_89), (ret_12, 3, 3, .int length_93), (kernel_85, 7, 1, .ref syntax_88), (r0, 13, 5, .ref kernel_85), (ret_12, 3, 5, .ref yb_75), (ret_12, 3, 6, .ref ye_75), (ret_12, 3, 1, .int r_73), (r0, 13, 15, .ref spare_69), (op, 1, 2, .int qz_47), (r0, 13, 4, .ref bo), (r0, 13, 3, .ref ou), (r0, 13, 2, .ref js), (js, 6, 7, .int pv), (js, 6, 8, .int pu), (js, 6, 0, .ref wk), (js, 6, 1, .ref wi), (js, 6, 2, .ref wz), (js, 6, 4, .ref jkf), (js, 6, 5, .ref jks), (r0, 13, 1, .ref fm), (fm, 4, 1, .int fl), (r0, 13, 7, .ref op)]) [0, 1, 2, 3, 4, 5, 6, 7, 8, 9, 10, 11, 12, 13, 14, 15, 16, 17, 18, 19, 20, 21, 22, 23, 24, 25] rfl (M1 := [(yb_75, 171, 40, ca 1, gb_89), (ye_75, 172, 40, ca 1, ge_89), (wk, 140, 1502, ca 1, fk), (wi, 141, 1502, ca 1, fi), (wz, 142, 1502, ca 1, fz), (jkf, 144, 1502, ca 1, fa), (jks, 145, 1502, ca 1, fs)]) [0, 1, 2, 3, 4, 5, 6] rfl (I1 := [(jFl, jLs dC dI ca G_47 3 none)]) [1] rfl
                          clear hh_138
                          have hh_159 := hh_158.addI (jDcc.ie hd_157)
                          clear hh_158
                          have hd_160 := jLs.grow (hh_159.iv 1 rfl) hb_1382 hN_138 (by decide)
                          have hh_161 := hh_159.sub (L1 := [(bo, 2, 1, .int qc_138), (bo, 2, 0, .ref qa_138), (ret_12, 3, 11, .null), (ret_12, 3, 10, .int qk_94), (ret_12, 3, 4, .int qs_89), (ret_12, 3, 3, .int length_93), (kernel_85, 7, 1, .ref syntax_88), (r0, 13, 5, .ref kernel_85), (ret_12, 3, 5, .ref yb_75), (ret_12, 3, 6, .ref ye_75), (ret_12, 3, 1, .int r_73), (r0, 13, 15, .ref spare_69), (op, 1, 2, .int qz_47), (r0, 13, 4, .ref bo), (r0, 13, 3, .ref ou), (r0, 13, 2, .ref js), (js, 6, 7, .int pv), (js, 6, 8, .int pu), (js, 6, 0, .ref wk), (js, 6, 1, .ref wi), (js, 6, 2, .ref wz), (js, 6, 4, .ref jkf), (js, 6, 5, .ref jks), (r0, 13, 1, .ref fm), (fm, 4, 1, .int fl), (r0, 13, 7, .ref op)]) [0, 1, 2, 3, 4, 5, 6, 7, 8, 9, 10, 11, 12, 13, 14, 15, 16, 17, 18, 19, 20, 21, 22, 23, 24, 25] rfl (M1 := [(yb_75, 171, 40, ca 1, gb_89), (ye_75, 172, 40, ca 1, ge_89), (wk, 140, 1502, ca 1, fk), (wi, 141, 1502, ca 1, fi), (wz, 142, 1502, ca 1, fz), (jkf, 144, 1502, ca 1, fa), (jks, 145, 1502, ca 1, fs)]) [0, 1, 2, 3, 4, 5, 6] rfl (I1 := [(jFdo, jDcc dC dI ca G_138 none phn_133)]) [0] rfl
                          clear hh_159
                          have hh_162 := hh_161.addI (jLs.ie hd_160)
                          clear hh_161
                          have hh_163 := hh_162.addIs hbE_138
                          have hd_164 := jOl.trL (hh_135.iv 1 rfl) hh_135.2.2.2.2.1 hbO_138 (by simp)
                          have hh_165 := hh_163.addI (jOl.ie (dC := dC) (dI := dI) (G0 := G0) (k := 2) (rs := [bo, ou]) (H0 := s.heap) (F := [(2, 0), (2, 1)]) (C := RX0) (T := TX0) (N := 2) rfl (by decide) hh_163.2.2.2.2.1 (hd_164))
                          clear hh_163
                          try simp only at hr_139
                          obtain ⟨hr_139_0, hr_139_1, hr_139_2, hr_139_3, hr_139_4⟩ := hr_139
                          try clear hsz_138 htt_138 hrc_138 hrs_138
                          have hsz_166 := hh_165.2.2.2.2.2.1
                          have htt_166 := hh_165.2.2.2.2.2.2.1
                          refine W.room (fun hrc_166 hrs_166 => ?_)
                          refine W.widen (k := LC - s.heap.size) (n := LS - jTot s.heap) (by omega) (by omega) ?_
                          rw [hQ]
                          exact W.vret hx hb hr (fun t ht hW => ⟨⟨(qc_138, qa_138, m_qa_138, phn_133, G_138), rfl, by (try dsimp only); exact ⟨(by first | (with_reducible assumption) | omega | rfl | fail), (by first | (with_reducible assumption) | omega | rfl | fail), (by first | (with_reducible assumption) | omega | rfl | fail), (by first | (with_reducible assumption) | omega | rfl | fail), (by first | assumption | fail | omega), (by first | (with_reducible assumption) | omega | rfl | fail)⟩, ⟨hh_165.ra (by first | (simp only; omega) | omega) (by first | (simp only; omega) | omega) (M1 := [(bo, 2, 1, .int qc_138), (bo, 2, 0, .ref qa_138)]) [0, 1] rfl ht, hgq_138_0, hNn_138, by rw [ht]; exact hh_165.iv 0 rfl, by rw [ht]; exact hh_165.2.2.2.2.2.2.2.2.sub (L1 := [(jFy, jYb dC dI G_138), (jFl, jLs dC dI ca G_138 3 none), (jFdo, jDcc dC dI ca G_138 none phn_133)]) [1, 2, 3] rfl⟩⟩, by rw [ht]; try exact hh_165.1.1, fun q h9 hq => by rw [ht]; try exact hh_165.1.2.1 q h9 hq⟩) hh_165.1.2.2 dX11_changeDocument_259
                    · have hpo_75 := jPo.rf (hpq_75 rfl)
                      have hnx_75 := jEd.nx hsn_75 (k := pk_75.toInt) (by omega) (by omega)
                      refine lv_aload hx hb dX11_changeDocument_213 (lv_at hl 4 rfl) ?_
                      refine lv_aload_n hx hb dX11_changeDocument_215 rfl (lv_at hl 0 rfl) ?_
                      obtain ⟨v_168, hv_168, hh_169⟩ := hh_75.pin (C := RX11) (T := TX11) (N := 19) hB13 rfl (by decide) hg_49 (i := 5) (by decide) rfl
                      clear hh_75
                      obtain ⟨kernel_170, rfl, hg_kernel_170⟩ := hv_168
                      refine j7_read hx hb hown hK (C := RX11) (T := TX11) (N := 19) rfl hly_13_5 hlk_41 (hh_169.at 0 rfl) dX11_changeDocument_216 ?_
                      obtain ⟨v_171, hv_171, hh_172⟩ := hh_169.pin (C := RX5) (T := TX5) (N := 11) hB7 rfl (by decide) hg_kernel_170 (i := 1) (by decide) rfl
                      clear hh_169
                      obtain ⟨syntax_173, rfl, hg_syntax_173⟩ := hv_171
                      refine j7_read hx hb hown hK (C := RX5) (T := TX5) (N := 11) rfl hly_7_1 hlk_203 (hh_172.at 0 rfl) dX11_changeDocument_219 ?_
                      obtain ⟨v_176, hv_176, hh_177⟩ := hh_172.pin (C := RX1) (T := TX1) (N := 17) hB3 rfl (by decide) hg_50 (i := 3) (by decide) rfl
                      obtain ⟨length_178, rfl, hlolength_178, hhilength_178⟩ := hv_176
                      try clear hsz_72 htt_72 hrc_72 hrs_72
                      have hsz_174 := hh_177.2.2.2.2.2.1
                      have htt_174 := hh_177.2.2.2.2.2.2.1
                      refine W.room (fun hrc_174 hrs_174 => ?_)
                      refine va_callv (A0 := jA base) (H0 := s.heap) (va_runV (As := [.ref syntax_173]) (rest := []) ⟨hx, hb, hml, hown, hts⟩ (uX1_partE l dC dI ca base B hB hAp hB3 hB8 hB12 hB101 hB102 hB132 hB133 hB171 hB172 hB293 G_47 H_74 ret_12 syntax_173 0 length_178 yb_75 ye_75 (pho_75) fb_75 fe_75) (cwV 1 hts (jgV (jWr_36 _ (List.mem_of_getElem? (i := 2) rfl)) (jWr_36 _ (List.mem_of_getElem? (i := 3) rfl)) (jWr_36 _ (List.mem_of_getElem? (i := 4) rfl)) (jWr_2 _ (List.mem_of_getElem? (i := 21) rfl)) (jWr_36 _ (List.mem_of_getElem? (i := 5) rfl))) rfl rfl rfl (by decide +kernel) ⟨by rw [← hR]; exact Nat.le_of_ble_eq_true rfl, by rw [← hR]; exact Nat.le_of_ble_eq_true rfl⟩) ⟨fun a U g mk q => by obtain ⟨q0, q1, q2, qK, q10, q11, q12, q13, q14, q15, q16, q17⟩ := q; exact ⟨q0, q1, q2, jG.calling g mk a qK, q10, q11, q12, q13, q14, q15, q16, q17⟩, hh_177.recv (C := RX1) (T := TX1) (N := 17) hB3 rfl (by decide) hg_50 hK, fun U hU hW => ⟨rfl, hU, hh_177.2.1, hG.step hW hU hh_177.1, hg_50, hg_syntax_173, hgb_75, hge_75, (hh_177.2.2.1.sub (L1 := [(ret_12, 3, 3, .int length_178), (ret_12, 3, 5, .ref yb_75), (ret_12, 3, 6, .ref ye_75)]) [0, 6, 7] rfl), (hh_177.2.2.2.2.2.2.2.1.sub (L1 := [(yb_75, 171, 40, ca 1, fb_75), (ye_75, 172, 40, ca 1, fe_75)]) [0, 1] rfl), (hh_177.2.2.2.2.2.2.2.2.sub (L1 := [(jFdo, jDcc dC dI ca G_47 (some ret_12) pho_75)]) [0] rfl), ⟨(by first | (with_reducible assumption) | omega | rfl | fail), (by first | (with_reducible assumption) | omega | rfl | fail)⟩⟩⟩ rfl rfl hl.1 rfl (lv_room (Nat.le_of_ble_eq_true rfl)) dX11_changeDocument_222 ⟨by rw [hRc]; show _ + 0 ≤ _; omega, by rw [hRs]; show _ + 0 ≤ _; omega⟩) hh_177.1 (fun q _ h => h) (fun q h => h) (fun u_174 t_174 H_174 locs_174 ht_174 hvm_174 hr_175 hb_174 hz_174 hk_174 hS_174 => ?_)
                      obtain ⟨qs_174, gb_174, ge_174⟩ := u_174
                      rw [ht_174] at hb_174
                      obtain ⟨hb_174, hbE_174⟩ := hb_174
                      obtain ⟨hb_174, hbO_174⟩ := hb_174
                      obtain ⟨⟨hb_1741, hb_1742, hb_1743, hb_1744, hb_1745⟩, hb_1746⟩ := hb_174
                      have hh_174 : jSt (dC, dI) B base G0 G_47 EX11_changeDocument s.heap (0 + ((m_qa_47 - n_pa) / 16)) (0 + (2 * (m_qa_47 - n_pa))) [(ret_12, 3, 4, .int qs_174), (ret_12, 3, 3, .int length_178), (kernel_170, 7, 1, .ref syntax_173), (r0, 13, 5, .ref kernel_170), (ret_12, 3, 11, .ref chk_81), (ret_12, 3, 10, .int pk_75), (ret_12, 3, 5, .ref yb_75), (ret_12, 3, 6, .ref ye_75), (ret_12, 3, 1, .int r_73), (r0, 13, 15, .ref spare_69), (bo, 2, 1, .int qc_47), (op, 1, 2, .int qz_47), (bo, 2, 0, .ref qa_47), (r0, 13, 4, .ref bo), (r0, 13, 3, .ref ou), (r0, 13, 2, .ref js), (js, 6, 7, .int pv), (js, 6, 8, .int pu), (js, 6, 0, .ref wk), (js, 6, 1, .ref wi), (js, 6, 2, .ref wz), (js, 6, 4, .ref jkf), (js, 6, 5, .ref jks), (r0, 13, 1, .ref fm), (fm, 4, 1, .int fl), (r0, 13, 7, .ref op)] [(yb_75, 171, 40, ca 1, gb_174), (ye_75, 172, 40, ca 1, ge_174), (wk, 140, 1502, ca 1, fk), (wi, 141, 1502, ca 1, fi), (wz, 142, 1502, ca 1, fz), (jkf, 144, 1502, ca 1, fa), (jks, 145, 1502, ca 1, fs)] [(jFdo, jDcc dC dI ca G_47 (some ret_12) pho_75), ([(2, 0), (2, 1)], jOl (dC, dI) G0 2 [bo, ou] s.heap), (jFy, jYb dC dI G_47), (jFl, jLs dC dI ca G_47 3 none)] H_174 locs_174 := (((hh_177.call hb_1741 hb_1742 hb_1743 hb_1744 hS_174 rfl (L1 := [(ret_12, 3, 3, .int length_178), (kernel_170, 7, 1, .ref syntax_173), (r0, 13, 5, .ref kernel_170), (ret_12, 3, 11, .ref chk_81), (ret_12, 3, 10, .int pk_75), (ret_12, 3, 5, .ref yb_75), (ret_12, 3, 6, .ref ye_75), (ret_12, 3, 1, .int r_73), (r0, 13, 15, .ref spare_69), (bo, 2, 1, .int qc_47), (op, 1, 2, .int qz_47), (bo, 2, 0, .ref qa_47), (r0, 13, 4, .ref bo), (r0, 13, 3, .ref ou), (r0, 13, 2, .ref js), (js, 6, 7, .int pv), (js, 6, 8, .int pu), (js, 6, 0, .ref wk), (js, 6, 1, .ref wi), (js, 6, 2, .ref wz), (js, 6, 4, .ref jkf), (js, 6, 5, .ref jks), (r0, 13, 1, .ref fm), (fm, 4, 1, .int fl), (r0, 13, 7, .ref op)]) [0, 1, 2, 3, 5, 6, 7, 8, 9, 10, 11, 12, 13, 14, 15, 16, 17, 18, 19, 20, 21, 22, 23, 24, 25] rfl rfl (M1 := [(wk, 140, 1502, ca 1, fk), (wi, 141, 1502, ca 1, fi), (wz, 142, 1502, ca 1, fz), (jkf, 144, 1502, ca 1, fa), (jks, 145, 1502, ca 1, fs)]) [2, 3, 4, 5, 6] rfl rfl (I1 := [([(2, 0), (2, 1)], jOl (dC, dI) G0 2 [bo, ou] s.heap), (jFy, jYb dC dI G_47), (jFl, jLs dC dI ca G_47 3 none)]) [1, 2, 3] rfl rfl).more hb_1745).moreM hb_1746).addIs hbE_174
                      clear hh_177 ht_174 hvm_174 hz_174 hk_174 hS_174 hb_1741 hb_1742 hb_1743 hb_1744 hb_1745
                      clear hb_1746
                      clear  hbE_174
                      try simp only at hr_175
                      obtain ⟨hr_175_0, hr_175_1, hr_175_2⟩ := hr_175
                      refine lv_aload hx hb dX11_changeDocument_225 (lv_at hl 4 rfl) ?_
                      try clear hsz_174 htt_174 hrc_174 hrs_174
                      have hsz_179 := hh_174.2.2.2.2.2.1
                      have htt_179 := hh_174.2.2.2.2.2.2.1
                      refine W.room (fun hrc_179 hrs_179 => ?_)
                      refine va_calli (A0 := jA base) (H0 := s.heap) (va_runV (As := []) (rest := []) ⟨hx, hb, hml, hown, hts⟩ (uX1_keepCheckedE l dC dI ca base B hB hAp hB3 hB11 hB101 hB171 hB172 hB210 G_47 H_174 ret_12 yb_75 ye_75 qs_174 pk_75 (pho_75)) (cwV 0 hts (jgV (jWr_42 _ (List.mem_of_getElem? (i := 16) rfl)) (jWr_42 _ (List.mem_of_getElem? (i := 17) rfl)) (jWr_42 _ (List.mem_of_getElem? (i := 18) rfl)) (jWr_2 _ (List.mem_of_getElem? (i := 21) rfl)) (jWr_42 _ (List.mem_of_getElem? (i := 19) rfl))) rfl rfl rfl (by decide +kernel) ⟨by rw [← hR]; exact Nat.le_of_ble_eq_true rfl, by rw [← hR]; exact Nat.le_of_ble_eq_true rfl⟩) ⟨fun a U g mk q => by obtain ⟨q0, q1, q2, qK, q10, q11, q12, q13, q14, q15, q16⟩ := q; exact ⟨q0, q1, q2, jG.calling g mk a qK, (va_K.moved (Vm.Alike.refl U.vm) q10), q11, q12, q13, q14, q15, q16⟩, hh_174.recv (C := RX1) (T := TX1) (N := 17) hB3 rfl (by decide) hg_50 hK, fun U hU hW => ⟨rfl, hU, hh_174.2.1, hG.step hW hU hh_174.1, va_K.moved hW.alike hK2, hg_50, hgb_75, hge_75, (hh_174.2.2.1.sub (L1 := [(ret_12, 3, 5, .ref yb_75), (ret_12, 3, 6, .ref ye_75), (ret_12, 3, 4, .int qs_174), (ret_12, 3, 10, .int pk_75)]) [6, 7, 0, 5] rfl), (hh_174.2.2.2.2.2.2.2.2.sub (L1 := [(jFdo, jDcc dC dI ca G_47 (some ret_12) pho_75)]) [0] rfl), ⟨(by first | (with_reducible assumption) | omega | rfl | fail), (by first | (with_reducible assumption) | omega | rfl | fail), (by first | (with_reducible assumption) | omega | rfl | fail), (by first | (with_reducible assumption) | omega | rfl | fail)⟩⟩⟩ rfl rfl hl.1 rfl (lv_room (Nat.le_of_ble_eq_true rfl)) dX11_changeDocument_227 ⟨by rw [hRc]; show _ + 0 ≤ _; omega, by rw [hRs]; show _ + 0 ≤ _; omega⟩) hh_174.1 (fun q _ h => h) (fun q h => h) (fun r_180 u_179 t_179 H_179 locs_179 ht_179 hvm_179 hr_180 hb_179 hz_179 hk_179 hS_179 => ?_)
                      obtain ⟨qk_179, rfl⟩ : ∃ z, z = u_179 := ⟨_, rfl⟩
                      rw [ht_179] at hb_179
                      obtain ⟨hb_179, hbE_179⟩ := hb_179
                      obtain ⟨hb_179, hbO_179⟩ := hb_179
                      obtain ⟨hb_1791, hb_1792, hb_1793, hb_1794, hb_1795⟩ := hb_179
                      have hh_179 : jSt (dC, dI) B base G0 G_47 EX11_changeDocument s.heap (0 + ((m_qa_47 - n_pa) / 16)) (0 + (2 * (m_qa_47 - n_pa))) [(ret_12, 3, 10, .int qk_179), (ret_12, 3, 4, .int qs_174), (ret_12, 3, 3, .int length_178), (kernel_170, 7, 1, .ref syntax_173), (r0, 13, 5, .ref kernel_170), (ret_12, 3, 11, .ref chk_81), (ret_12, 3, 5, .ref yb_75), (ret_12, 3, 6, .ref ye_75), (ret_12, 3, 1, .int r_73), (r0, 13, 15, .ref spare_69), (bo, 2, 1, .int qc_47), (op, 1, 2, .int qz_47), (bo, 2, 0, .ref qa_47), (r0, 13, 4, .ref bo), (r0, 13, 3, .ref ou), (r0, 13, 2, .ref js), (js, 6, 7, .int pv), (js, 6, 8, .int pu), (js, 6, 0, .ref wk), (js, 6, 1, .ref wi), (js, 6, 2, .ref wz), (js, 6, 4, .ref jkf), (js, 6, 5, .ref jks), (r0, 13, 1, .ref fm), (fm, 4, 1, .int fl), (r0, 13, 7, .ref op)] [(yb_75, 171, 40, ca 1, gb_174), (ye_75, 172, 40, ca 1, ge_174), (wk, 140, 1502, ca 1, fk), (wi, 141, 1502, ca 1, fi), (wz, 142, 1502, ca 1, fz), (jkf, 144, 1502, ca 1, fa), (jks, 145, 1502, ca 1, fs)] [(jFdo, jDcc dC dI ca G_47 (some ret_12) pho_75), ([(2, 0), (2, 1)], jOl (dC, dI) G0 2 [bo, ou] s.heap), (jFy, jYb dC dI G_47), (jFl, jLs dC dI ca G_47 3 none)] H_179 locs_179 := (((hh_174.call hb_1791 hb_1792 hb_1793 hb_1794 hS_179 rfl (L1 := [(ret_12, 3, 4, .int qs_174), (ret_12, 3, 3, .int length_178), (kernel_170, 7, 1, .ref syntax_173), (r0, 13, 5, .ref kernel_170), (ret_12, 3, 11, .ref chk_81), (ret_12, 3, 5, .ref yb_75), (ret_12, 3, 6, .ref ye_75), (ret_12, 3, 1, .int r_73), (r0, 13, 15, .ref spare_69), (bo, 2, 1, .int qc_47), (op, 1, 2, .int qz_47), (bo, 2, 0, .ref qa_47), (r0, 13, 4, .ref bo), (r0, 13, 3, .ref ou), (r0, 13, 2, .ref js), (js, 6, 7, .int pv), (js, 6, 8, .int pu), (js, 6, 0, .ref wk), (js, 6, 1, .ref wi), (js, 6, 2, .ref wz), (js, 6, 4, .ref jkf), (js, 6, 5, .ref jks), (r0, 13, 1, .ref fm), (fm, 4, 1, .int fl), (r0, 13, 7, .ref op)]) [0, 1, 2, 3, 4, 6, 7, 8, 9, 10, 11, 12, 13, 14, 15, 16, 17, 18, 19, 20, 21, 22, 23, 24, 25] rfl rfl (M1 := [(yb_75, 171, 40, ca 1, gb_174), (ye_75, 172, 40, ca 1, ge_174), (wk, 140, 1502, ca 1, fk), (wi, 141, 1502, ca 1, fi), (wz, 142, 1502, ca 1, fz), (jkf, 144, 1502, ca 1, fa), (jks, 145, 1502, ca 1, fs)]) [0, 1, 2, 3, 4, 5, 6] rfl rfl (I1 := [([(2, 0), (2, 1)], jOl (dC, dI) G0 2 [bo, ou] s.heap), (jFy, jYb dC dI G_47), (jFl, jLs dC dI ca G_47 3 none)]) [1, 2, 3] rfl rfl).more hb_1795)).addIs hbE_179
                      clear hh_174 ht_179 hvm_179 hz_179 hk_179 hS_179 hb_1791 hb_1792 hb_1793 hb_1794 hb_1795
                      clear  hbE_179
                      obtain ⟨hr_180b, hr_180p⟩ := hr_180
                      obtain ⟨hr_180p_0, hr_180p_1, hr_180p_2, hr_180p_3⟩ := hr_180p
                      have hr_180p_3o := jOr.of hr_180p_3
                      clear hr_180p_3
                      have hr_180p_3 := hr_180p_3o
                      clear hr_180p_3o
                      have hr_180' := jb_01 hr_180b
                      refine lv_if_ne (tgt := 239) hx hb dX11_changeDocument_230 (by decide) (fun c_181 => ?_) (fun c_181 => ?_)
                      · skip
                        have c_181' : r_180.toInt ≠ 0 := jb_ne (rfl) ((by decide)) c_181
                        first | (have hr_180p_3q := hr_180p_3.resolve_left (by omega); clear hr_180p_3) | (have hr_180p_3q := hr_180p_3.resolve_right (by omega); clear hr_180p_3) | skip
                        have hjg := jEd.ge hr_175_2 (k := qk_179.toInt) (by omega)
                        have hjh := jSn.ge hr_175_2 (k := qk_179.toInt) (by omega)
                        obtain ⟨phn_182, hphn_182⟩ : ∃ q : Nat, q = pho_75 + (575 * (qs_174.toInt - qk_179.toInt) - 16 + (1500 - jSo ge_174 qk_179.toInt)).toNat := ⟨_, rfl⟩
                        have hF_182 := jDcc.full (ph1 := phn_182) (hh_179.iv 0 rfl) hg_50 (hh_179.at 6 rfl) (hh_179.at 7 rfl) ⟨(hh_179.2.2.1.sub (L1 := [(ret_12, 3, 4, .int qs_174), (ret_12, 3, 10, .int qk_179), (ret_12, 3, 11, .ref chk_81)]) [1, 0, 5] rfl), (hh_179.2.2.2.2.2.2.2.1.sub (L1 := [(yb_75, 171, 40, ca 1, gb_174), (ye_75, 172, 40, ca 1, ge_174)]) [0, 1] rfl), (hr_175_2.mono (by omega)), by omega⟩ (w := (575 * (qs_174.toInt - qk_179.toInt) - 16 + (1500 - jSo ge_174 qk_179.toInt)).toNat) (fun _ => jPo.mkR (by omega)) (by omega) (fun _ => by omega)
                        have hh_183 := hh_179.sub (L1 := [(ret_12, 3, 10, .int qk_179), (ret_12, 3, 4, .int qs_174), (ret_12, 3, 3, .int length_178), (kernel_170, 7, 1, .ref syntax_173), (r0, 13, 5, .ref kernel_170), (ret_12, 3, 11, .ref chk_81), (ret_12, 3, 5, .ref yb_75), (ret_12, 3, 6, .ref ye_75), (ret_12, 3, 1, .int r_73), (r0, 13, 15, .ref spare_69), (bo, 2, 1, .int qc_47), (op, 1, 2, .int qz_47), (bo, 2, 0, .ref qa_47), (r0, 13, 4, .ref bo), (r0, 13, 3, .ref ou), (r0, 13, 2, .ref js), (js, 6, 7, .int pv), (js, 6, 8, .int pu), (js, 6, 0, .ref wk), (js, 6, 1, .ref wi), (js, 6, 2, .ref wz), (js, 6, 4, .ref jkf), (js, 6, 5, .ref jks), (r0, 13, 1, .ref fm), (fm, 4, 1, .int fl), (r0, 13, 7, .ref op)]) [0, 1, 2, 3, 4, 5, 6, 7, 8, 9, 10, 11, 12, 13, 14, 15, 16, 17, 18, 19, 20, 21, 22, 23, 24, 25] rfl (M1 := [(yb_75, 171, 40, ca 1, gb_174), (ye_75, 172, 40, ca 1, ge_174), (wk, 140, 1502, ca 1, fk), (wi, 141, 1502, ca 1, fi), (wz, 142, 1502, ca 1, fz), (jkf, 144, 1502, ca 1, fa), (jks, 145, 1502, ca 1, fs)]) [0, 1, 2, 3, 4, 5, 6] rfl (I1 := [([(2, 0), (2, 1)], jOl (dC, dI) G0 2 [bo, ou] s.heap), (jFy, jYb dC dI G_47), (jFl, jLs dC dI ca G_47 3 none)]) [1, 2, 3] rfl
                        clear hh_179
                        have hh_184 := hh_183.addI (jDcc.ie hF_182)
                        clear hh_183
                        refine lv_aload hx hb dX11_changeDocument_239 (lv_at hl 4 rfl) ?_
                        refine j7_read hx hb hown hK (C := RX1) (T := TX1) (N := 17) rfl hly_3_10 hlk_171 (hh_184.at 0 rfl) dX11_changeDocument_241 ?_
                        refine lv_aload hx hb dX11_changeDocument_244 (lv_at hl 4 rfl) ?_
                        refine j7_read hx hb hown hK (C := RX1) (T := TX1) (N := 17) rfl hly_3_4 hlk_168 (hh_184.at 1 rfl) dX11_changeDocument_246 ?_
                        refine lv_icmp_ne (tgt := 259) hx hb dX11_changeDocument_249 (by decide) (fun c_185 => ?_) (fun c_185 => ?_)
                        · skip
                          have c_185' : qk_179.toInt ≠ qs_174.toInt := jb_ne (rfl) (rfl) c_185
                          try clear hsz_179 htt_179 hrc_179 hrs_179
                          have hsz_186 := hh_184.2.2.2.2.2.1
                          have htt_186 := hh_184.2.2.2.2.2.2.1
                          refine W.room (fun hrc_186 hrs_186 => ?_)
                          refine W.widen (k := LC - s.heap.size) (n := LS - jTot s.heap) (by omega) (by omega) ?_
                          rw [hQ]
                          exact W.vret hx hb hr (fun t ht hW => ⟨⟨(qc_47, qa_47, m_qa_47, phn_182, G_47), rfl, by (try dsimp only); exact ⟨(by first | (with_reducible assumption) | omega | rfl | fail), (by first | (with_reducible assumption) | omega | rfl | fail), (by first | (with_reducible assumption) | omega | rfl | fail), (by first | (with_reducible assumption) | omega | rfl | fail), (by first | assumption | fail | omega), (by first | (with_reducible assumption) | omega | rfl | fail)⟩, ⟨hh_184.ra (by first | (simp only; omega) | omega) (by first | (simp only; omega) | omega) (M1 := [(bo, 2, 1, .int qc_47), (bo, 2, 0, .ref qa_47)]) [10, 12] rfl ht, hgq_47_0, hNn_47, by rw [ht]; exact hh_184.iv 1 rfl, by rw [ht]; exact hh_184.2.2.2.2.2.2.2.2.sub (L1 := [(jFy, jYb dC dI G_47), (jFl, jLs dC dI ca G_47 3 none), (jFdo, jDcc dC dI ca G_47 none phn_182)]) [2, 3, 0] rfl⟩⟩, by rw [ht]; try exact hh_184.1.1, fun q h9 hq => by rw [ht]; try exact hh_184.1.2.1 q h9 hq⟩) hh_184.1.2.2 dX11_changeDocument_259
                        · skip
                          have c_185' : qk_179.toInt = qs_174.toInt := jb_ne_n (rfl) (rfl) c_185
                          first | (have hr_180p_3q := hr_180p_3.resolve_left (by omega); clear hr_180p_3) | (have hr_180p_3q := hr_180p_3.resolve_right (by omega); clear hr_180p_3) | skip
                          refine lv_aload_n hx hb dX11_changeDocument_252 rfl (lv_at hl 0 rfl) ?_
                          refine lv_aload hx hb dX11_changeDocument_253 (lv_at hl 4 rfl) ?_
                          refine lv_iconst (v := 1) hx hb dX11_changeDocument_255 (by decide) ?_
                          try clear hsz_179 htt_179 hrc_179 hrs_179
                          have hsz_187 := hh_184.2.2.2.2.2.1
                          have htt_187 := hh_184.2.2.2.2.2.2.1
                          refine W.room (fun hrc_187 hrs_187 => ?_)
                          refine va_callv (A0 := jA base) (H0 := s.heap) (va_runV (As := [.ref ret_12, .int 1]) (rest := []) ⟨hx, hb, hml, hown, hts⟩ (uX11_publish l dC dI ca base B hB hAp hB2 hB3 hB4 hB11 hB13 hB101 hB171 hB172 hB196 hB210 G_47 H_179 r0 ret_12 1 bo qc_47 qa_47 m_qa_47 ou LC LS) (cwV 2 hts (jgV (jWr_39 _ (List.mem_of_getElem? (i := 19) rfl)) (jWr_39 _ (List.mem_of_getElem? (i := 20) rfl)) (jWr_39 _ (List.mem_of_getElem? (i := 21) rfl)) (jWr_1 _ (List.mem_of_getElem? (i := 2) rfl)) (jWr_39 _ (List.mem_of_getElem? (i := 22) rfl))) rfl rfl rfl (by decide +kernel) ⟨by rw [← hR]; exact Nat.le_of_ble_eq_true rfl, by rw [← hR]; exact Nat.le_of_ble_eq_true rfl⟩) ⟨fun a U g mk q => by obtain ⟨q0, q1, q2, qK, q10, q11, q12, q13, q14, q15, q16, q17, q18, q19⟩ := q; exact ⟨q0, q1, q2, jG.calling g mk a qK, (va_K.moved (Vm.Alike.refl U.vm) q10), q11, q12, q13, q14, q15, q16, q17, q18, q19⟩, hh_184.recv (C := RX11) (T := TX11) (N := 19) hB13 rfl (by decide) hg_49 hK, fun U hU hW => ⟨rfl, hU, hh_184.2.1, hG.step hW hU hh_184.1, va_K.moved hW.alike hK2, hg_50, hg_49, (Or.inr rfl), hg_51, hgq_47_0, hg_52, (hh_184.2.2.1.sub (L1 := [(r0, 13, 4, .ref bo), (bo, 2, 1, .int qc_47), (bo, 2, 0, .ref qa_47), (r0, 13, 3, .ref ou)]) [13, 10, 12, 14] rfl), (hh_184.2.2.2.2.2.2.2.2.sub (L1 := [(jFy, jYb dC dI G_47)]) [2] rfl), (by omega), (by omega), ⟨(by first | (with_reducible assumption) | omega | rfl | fail), (by first | (with_reducible assumption) | omega | rfl | fail), (by first | (with_reducible assumption) | omega | rfl | fail), (by first | (with_reducible assumption) | omega | rfl | fail), (by first | assumption | fail | omega)⟩⟩⟩ rfl rfl hl.1 rfl (lv_room (Nat.le_of_ble_eq_true rfl)) dX11_changeDocument_256 ⟨by rw [hRc]; omega, by rw [hRs]; omega⟩) hh_184.1 (fun q _ h => h) (fun q h => h) (fun u_187 t_187 H_187 locs_187 ht_187 hvm_187 hr_188 hb_187 hz_187 hk_187 hS_187 => ?_)
                          obtain ⟨qc_187, qa_187, m_qa_187, G_187⟩ := u_187
                          rw [ht_187] at hb_187
                          simp only at hb_187
                          obtain ⟨⟨hb_1871, hb_1872, hb_1873, hb_1874, hb_1875, hb_1876⟩, hgq_187_0, hN_187, hbO_187, hbE_187⟩ := hb_187
                          have hh_187 : jSt (dC, dI) B base G0 G_187 EX11_changeDocument s.heap ((0 + ((m_qa_47 - n_pa) / 16)) + ((m_qa_187 - m_qa_47) / 16)) ((0 + (2 * (m_qa_47 - n_pa))) + (2 * (m_qa_187 - m_qa_47))) [(bo, 2, 1, .int qc_187), (bo, 2, 0, .ref qa_187), (ret_12, 3, 10, .int qk_179), (ret_12, 3, 4, .int qs_174), (ret_12, 3, 3, .int length_178), (kernel_170, 7, 1, .ref syntax_173), (r0, 13, 5, .ref kernel_170), (ret_12, 3, 11, .ref chk_81), (ret_12, 3, 5, .ref yb_75), (ret_12, 3, 6, .ref ye_75), (ret_12, 3, 1, .int r_73), (r0, 13, 15, .ref spare_69), (op, 1, 2, .int qz_47), (r0, 13, 4, .ref bo), (r0, 13, 3, .ref ou), (r0, 13, 2, .ref js), (js, 6, 7, .int pv), (js, 6, 8, .int pu), (js, 6, 0, .ref wk), (js, 6, 1, .ref wi), (js, 6, 2, .ref wz), (js, 6, 4, .ref jkf), (js, 6, 5, .ref jks), (r0, 13, 1, .ref fm), (fm, 4, 1, .int fl), (r0, 13, 7, .ref op)] [(yb_75, 171, 40, ca 1, gb_174), (ye_75, 172, 40, ca 1, ge_174), (wk, 140, 1502, ca 1, fk), (wi, 141, 1502, ca 1, fi), (wz, 142, 1502, ca 1, fz), (jkf, 144, 1502, ca 1, fa), (jks, 145, 1502, ca 1, fs)] [(jFdo, jDcc dC dI ca G_47 none phn_182), (jFl, jLs dC dI ca G_47 3 none)] H_187 locs_187 := (hh_184.callG hb_1871 hb_1872 hb_1873 hb_1874 hb_1875 hS_187 rfl (L1 := [(ret_12, 3, 10, .int qk_179), (ret_12, 3, 4, .int qs_174), (ret_12, 3, 3, .int length_178), (kernel_170, 7, 1, .ref syntax_173), (r0, 13, 5, .ref kernel_170), (ret_12, 3, 11, .ref chk_81), (ret_12, 3, 5, .ref yb_75), (ret_12, 3, 6, .ref ye_75), (ret_12, 3, 1, .int r_73), (r0, 13, 15, .ref spare_69), (op, 1, 2, .int qz_47), (r0, 13, 4, .ref bo), (r0, 13, 3, .ref ou), (r0, 13, 2, .ref js), (js, 6, 7, .int pv), (js, 6, 8, .int pu), (js, 6, 0, .ref wk), (js, 6, 1, .ref wi), (js, 6, 2, .ref wz), (js, 6, 4, .ref jkf), (js, 6, 5, .ref jks), (r0, 13, 1, .ref fm), (fm, 4, 1, .int fl), (r0, 13, 7, .ref op)]) [0, 1, 2, 3, 4, 5, 6, 7, 8, 9, 11, 13, 14, 15, 16, 17, 18, 19, 20, 21, 22, 23, 24, 25] rfl rfl (M1 := [(yb_75, 171, 40, ca 1, gb_174), (ye_75, 172, 40, ca 1, ge_174), (wk, 140, 1502, ca 1, fk), (wi, 141, 1502, ca 1, fi), (wz, 142, 1502, ca 1, fz), (jkf, 144, 1502, ca 1, fa), (jks, 145, 1502, ca 1, fs)]) [0, 1, 2, 3, 4, 5, 6] rfl rfl (I1 := [(jFdo, jDcc dC dI ca G_47 none phn_182), (jFl, jLs dC dI ca G_47 3 none)]) [0, 3] rfl rfl).more hb_1876
                          have hNn_187 : (jNk [0, 1, 2, 3, 4, 5, 6, 7, 8, 9, 10, 11, 12, 13, 14, 15, 16]) G0 G_187 := (hNn_47).tr hN_187
                          have hg_189 := hb_1872 _ _ hg_49
                          have hg_190 := hb_1872 _ _ hg_50
                          have hg_191 := hb_1872 _ _ hg_syntax_173
                          have hg_192 := hb_1872 _ _ hg_kernel_170
                          have hg_193 := hb_1872 _ _ hg_chk_81
                          have hg_194 := hb_1872 _ _ hgb_75
                          have hg_195 := hb_1872 _ _ hge_75
                          have hg_196 := hb_1872 _ _ hg_spare_69
                          have hg_197 := hb_1872 _ _ hg_51
                          have hg_198 := hb_1872 _ _ hg_52
                          have hg_199 := hb_1872 _ _ hg_53
                          have hg_200 := hb_1872 _ _ hg_54
                          have hg_201 := hb_1872 _ _ hg_55
                          have hg_202 := hb_1872 _ _ hg_56
                          have hg_203 := hb_1872 _ _ hg_57
                          have hg_204 := hb_1872 _ _ hg_58
                          have hg_205 := hb_1872 _ _ hg_59
                          have hg_206 := hb_1872 _ _ hg_60
                          have hd_207 := jDcc.grow (hh_187.iv 0 rfl) hb_1872 hN_187 (by decide)
                          have hh_208 := hh_187.sub (L1 := [(bo, 2, 1, .int qc_187), (bo, 2, 0, .ref qa_187), (ret_12, 3, 10, .int qk_179), (ret_12, 3, 4, .int qs_174), (ret_12, 3, 3, .int length_178), (kernel_170, 7, 1, .ref syntax_173), (r0, 13, 5, .ref kernel_170), (ret_12, 3, 11, .ref chk_81), (ret_12, 3, 5, .ref yb_75), (ret_12, 3, 6, .ref ye_75), (ret_12, 3, 1, .int r_73), (r0, 13, 15, .ref spare_69), (op, 1, 2, .int qz_47), (r0, 13, 4, .ref bo), (r0, 13, 3, .ref ou), (r0, 13, 2, .ref js), (js, 6, 7, .int pv), (js, 6, 8, .int pu), (js, 6, 0, .ref wk), (js, 6, 1, .ref wi), (js, 6, 2, .ref wz), (js, 6, 4, .ref jkf), (js, 6, 5, .ref jks), (r0, 13, 1, .ref fm), (fm, 4, 1, .int fl), (r0, 13, 7, .ref op)]) [0, 1, 2, 3, 4, 5, 6, 7, 8, 9, 10, 11, 12, 13, 14, 15, 16, 17, 18, 19, 20, 21, 22, 23, 24, 25] rfl (M1 := [(yb_75, 171, 40, ca 1, gb_174), (ye_75, 172, 40, ca 1, ge_174), (wk, 140, 1502, ca 1, fk), (wi, 141, 1502, ca 1, fi), (wz, 142, 1502, ca 1, fz), (jkf, 144, 1502, ca 1, fa), (jks, 145, 1502, ca 1, fs)]) [0, 1, 2, 3, 4, 5, 6] rfl (I1 := [(jFl, jLs dC dI ca G_47 3 none)]) [1] rfl
                          clear hh_187
                          have hh_209 := hh_208.addI (jDcc.ie hd_207)
                          clear hh_208
                          have hd_210 := jLs.grow (hh_209.iv 1 rfl) hb_1872 hN_187 (by decide)
                          have hh_211 := hh_209.sub (L1 := [(bo, 2, 1, .int qc_187), (bo, 2, 0, .ref qa_187), (ret_12, 3, 10, .int qk_179), (ret_12, 3, 4, .int qs_174), (ret_12, 3, 3, .int length_178), (kernel_170, 7, 1, .ref syntax_173), (r0, 13, 5, .ref kernel_170), (ret_12, 3, 11, .ref chk_81), (ret_12, 3, 5, .ref yb_75), (ret_12, 3, 6, .ref ye_75), (ret_12, 3, 1, .int r_73), (r0, 13, 15, .ref spare_69), (op, 1, 2, .int qz_47), (r0, 13, 4, .ref bo), (r0, 13, 3, .ref ou), (r0, 13, 2, .ref js), (js, 6, 7, .int pv), (js, 6, 8, .int pu), (js, 6, 0, .ref wk), (js, 6, 1, .ref wi), (js, 6, 2, .ref wz), (js, 6, 4, .ref jkf), (js, 6, 5, .ref jks), (r0, 13, 1, .ref fm), (fm, 4, 1, .int fl), (r0, 13, 7, .ref op)]) [0, 1, 2, 3, 4, 5, 6, 7, 8, 9, 10, 11, 12, 13, 14, 15, 16, 17, 18, 19, 20, 21, 22, 23, 24, 25] rfl (M1 := [(yb_75, 171, 40, ca 1, gb_174), (ye_75, 172, 40, ca 1, ge_174), (wk, 140, 1502, ca 1, fk), (wi, 141, 1502, ca 1, fi), (wz, 142, 1502, ca 1, fz), (jkf, 144, 1502, ca 1, fa), (jks, 145, 1502, ca 1, fs)]) [0, 1, 2, 3, 4, 5, 6] rfl (I1 := [(jFdo, jDcc dC dI ca G_187 none phn_182)]) [0] rfl
                          clear hh_209
                          have hh_212 := hh_211.addI (jLs.ie hd_210)
                          clear hh_211
                          have hh_213 := hh_212.addIs hbE_187
                          have hd_214 := jOl.trL (hh_184.iv 1 rfl) hh_184.2.2.2.2.1 hbO_187 (by simp)
                          have hh_215 := hh_213.addI (jOl.ie (dC := dC) (dI := dI) (G0 := G0) (k := 2) (rs := [bo, ou]) (H0 := s.heap) (F := [(2, 0), (2, 1)]) (C := RX0) (T := TX0) (N := 2) rfl (by decide) hh_213.2.2.2.2.1 (hd_214))
                          clear hh_213
                          try simp only at hr_188
                          obtain ⟨hr_188_0, hr_188_1, hr_188_2, hr_188_3, hr_188_4⟩ := hr_188
                          try clear hsz_187 htt_187 hrc_187 hrs_187
                          have hsz_216 := hh_215.2.2.2.2.2.1
                          have htt_216 := hh_215.2.2.2.2.2.2.1
                          refine W.room (fun hrc_216 hrs_216 => ?_)
                          refine W.widen (k := LC - s.heap.size) (n := LS - jTot s.heap) (by omega) (by omega) ?_
                          rw [hQ]
                          exact W.vret hx hb hr (fun t ht hW => ⟨⟨(qc_187, qa_187, m_qa_187, phn_182, G_187), rfl, by (try dsimp only); exact ⟨(by first | (with_reducible assumption) | omega | rfl | fail), (by first | (with_reducible assumption) | omega | rfl | fail), (by first | (with_reducible assumption) | omega | rfl | fail), (by first | (with_reducible assumption) | omega | rfl | fail), (by first | assumption | fail | omega), (by first | (with_reducible assumption) | omega | rfl | fail)⟩, ⟨hh_215.ra (by first | (simp only; omega) | omega) (by first | (simp only; omega) | omega) (M1 := [(bo, 2, 1, .int qc_187), (bo, 2, 0, .ref qa_187)]) [0, 1] rfl ht, hgq_187_0, hNn_187, by rw [ht]; exact hh_215.iv 0 rfl, by rw [ht]; exact hh_215.2.2.2.2.2.2.2.2.sub (L1 := [(jFy, jYb dC dI G_187), (jFl, jLs dC dI ca G_187 3 none), (jFdo, jDcc dC dI ca G_187 none phn_182)]) [1, 2, 3] rfl⟩⟩, by rw [ht]; try exact hh_215.1.1, fun q h9 hq => by rw [ht]; try exact hh_215.1.2.1 q h9 hq⟩) hh_215.1.2.2 dX11_changeDocument_259
                      · skip
                        have c_181' : r_180.toInt = 0 := jb_ne_n (rfl) ((by decide)) c_181
                        first | (have hr_180p_3q := hr_180p_3.resolve_left (by omega); clear hr_180p_3) | (have hr_180p_3q := hr_180p_3.resolve_right (by omega); clear hr_180p_3) | skip
                        refine lv_aload_n hx hb dX11_changeDocument_233 rfl (lv_at hl 0 rfl) ?_
                        refine lv_aload hx hb dX11_changeDocument_234 (lv_at hl 4 rfl) ?_
                        try clear hsz_179 htt_179 hrc_179 hrs_179
                        have hsz_217 := hh_179.2.2.2.2.2.1
                        have htt_217 := hh_179.2.2.2.2.2.2.1
                        refine W.room (fun hrc_217 hrs_217 => ?_)
                        refine va_callv (A0 := jA base) (H0 := s.heap) (va_runV (As := [.ref ret_12]) (rest := []) ⟨hx, hb, hml, hown, hts⟩ (uX11_releaseE l dC dI ca base B hB hAp hB3 hB11 hB13 hB101 hB212 G_47 H_179 r0 ret_12 yb_75 ye_75 (pho_75)) (cwV 1 hts (jgV (jWr_43 _ (List.mem_of_getElem? (i := 3) rfl)) (jWr_43 _ (List.mem_of_getElem? (i := 4) rfl)) (jWr_43 _ (List.mem_of_getElem? (i := 5) rfl)) (jWr_1 _ (List.mem_of_getElem? (i := 2) rfl)) (jWr_43 _ (List.mem_of_getElem? (i := 6) rfl))) rfl rfl rfl (by decide +kernel) ⟨by rw [← hR]; exact Nat.le_of_ble_eq_true rfl, by rw [← hR]; exact Nat.le_of_ble_eq_true rfl⟩) ⟨fun a U g mk q => by obtain ⟨q0, q1, q2, qK, q10, q11, q12, q13, q14, q15, q16, q17⟩ := q; exact ⟨q0, q1, q2, jG.calling g mk a qK, (va_K.moved (Vm.Alike.refl U.vm) q10), q11, q12, q13, q14, q15, q16, q17⟩, hh_179.recv (C := RX11) (T := TX11) (N := 19) hB13 rfl (by decide) hg_49 hK, fun U hU hW => ⟨rfl, hU, hh_179.2.1, hG.step hW hU hh_179.1, va_K.moved hW.alike hK2, hg_49, hg_50, hgb_75, hge_75, (hh_179.2.2.1.sub (L1 := [(ret_12, 3, 5, .ref yb_75), (ret_12, 3, 6, .ref ye_75)]) [6, 7] rfl), (hh_179.2.2.2.2.2.2.2.2.sub (L1 := [(jFdo, jDcc dC dI ca G_47 (some ret_12) pho_75)]) [0] rfl), trivial⟩⟩ rfl rfl hl.1 rfl (lv_room (Nat.le_of_ble_eq_true rfl)) dX11_changeDocument_236 ⟨by rw [hRc]; show _ + 0 ≤ _; omega, by rw [hRs]; show _ + 0 ≤ _; omega⟩) hh_179.1 (fun q _ h => h) (fun q h => h) (fun u_217 t_217 H_217 locs_217 ht_217 hvm_217 hr_218 hb_217 hz_217 hk_217 hS_217 => ?_)
                        rw [ht_217] at hb_217
                        obtain ⟨hb_217, hbE_217⟩ := hb_217
                        obtain ⟨hb_2171, hb_2172, hb_2173, hb_2174, hb_2175⟩ := hb_217
                        have hh_217 : jSt (dC, dI) B base G0 G_47 EX11_changeDocument s.heap (0 + ((m_qa_47 - n_pa) / 16)) (0 + (2 * (m_qa_47 - n_pa))) [(ret_12, 3, 11, .null), (ret_12, 3, 10, .int qk_179), (ret_12, 3, 4, .int qs_174), (ret_12, 3, 3, .int length_178), (kernel_170, 7, 1, .ref syntax_173), (r0, 13, 5, .ref kernel_170), (ret_12, 3, 5, .ref yb_75), (ret_12, 3, 6, .ref ye_75), (ret_12, 3, 1, .int r_73), (r0, 13, 15, .ref spare_69), (bo, 2, 1, .int qc_47), (op, 1, 2, .int qz_47), (bo, 2, 0, .ref qa_47), (r0, 13, 4, .ref bo), (r0, 13, 3, .ref ou), (r0, 13, 2, .ref js), (js, 6, 7, .int pv), (js, 6, 8, .int pu), (js, 6, 0, .ref wk), (js, 6, 1, .ref wi), (js, 6, 2, .ref wz), (js, 6, 4, .ref jkf), (js, 6, 5, .ref jks), (r0, 13, 1, .ref fm), (fm, 4, 1, .int fl), (r0, 13, 7, .ref op)] [(yb_75, 171, 40, ca 1, gb_174), (ye_75, 172, 40, ca 1, ge_174), (wk, 140, 1502, ca 1, fk), (wi, 141, 1502, ca 1, fi), (wz, 142, 1502, ca 1, fz), (jkf, 144, 1502, ca 1, fa), (jks, 145, 1502, ca 1, fs)] [(jFdo, jDcc dC dI ca G_47 (some ret_12) pho_75), ([(2, 0), (2, 1)], jOl (dC, dI) G0 2 [bo, ou] s.heap), (jFy, jYb dC dI G_47), (jFl, jLs dC dI ca G_47 3 none)] H_217 locs_217 := (((hh_179.call hb_2171 hb_2172 hb_2173 hb_2174 hS_217 rfl (L1 := [(ret_12, 3, 10, .int qk_179), (ret_12, 3, 4, .int qs_174), (ret_12, 3, 3, .int length_178), (kernel_170, 7, 1, .ref syntax_173), (r0, 13, 5, .ref kernel_170), (ret_12, 3, 5, .ref yb_75), (ret_12, 3, 6, .ref ye_75), (ret_12, 3, 1, .int r_73), (r0, 13, 15, .ref spare_69), (bo, 2, 1, .int qc_47), (op, 1, 2, .int qz_47), (bo, 2, 0, .ref qa_47), (r0, 13, 4, .ref bo), (r0, 13, 3, .ref ou), (r0, 13, 2, .ref js), (js, 6, 7, .int pv), (js, 6, 8, .int pu), (js, 6, 0, .ref wk), (js, 6, 1, .ref wi), (js, 6, 2, .ref wz), (js, 6, 4, .ref jkf), (js, 6, 5, .ref jks), (r0, 13, 1, .ref fm), (fm, 4, 1, .int fl), (r0, 13, 7, .ref op)]) [0, 1, 2, 3, 4, 6, 7, 8, 9, 10, 11, 12, 13, 14, 15, 16, 17, 18, 19, 20, 21, 22, 23, 24, 25] rfl rfl (M1 := [(yb_75, 171, 40, ca 1, gb_174), (ye_75, 172, 40, ca 1, ge_174), (wk, 140, 1502, ca 1, fk), (wi, 141, 1502, ca 1, fi), (wz, 142, 1502, ca 1, fz), (jkf, 144, 1502, ca 1, fa), (jks, 145, 1502, ca 1, fs)]) [0, 1, 2, 3, 4, 5, 6] rfl rfl (I1 := [([(2, 0), (2, 1)], jOl (dC, dI) G0 2 [bo, ou] s.heap), (jFy, jYb dC dI G_47), (jFl, jLs dC dI ca G_47 3 none)]) [1, 2, 3] rfl rfl).more hb_2175)).addIs hbE_217
                        clear hh_179 ht_217 hvm_217 hz_217 hk_217 hS_217 hb_2171 hb_2172 hb_2173 hb_2174 hb_2175
                        clear  hbE_217
                        have hjg := jEd.ge hr_175_2 (k := qk_179.toInt) (by omega)
                        have hjh := jSn.ge hr_175_2 (k := qk_179.toInt) (by omega)
                        obtain ⟨phn_219, hphn_219⟩ : ∃ q : Nat, q = pho_75 + (575 * (qs_174.toInt - qk_179.toInt) + (1500 - jEd ge_174 qk_179.toInt)).toNat := ⟨_, rfl⟩
                        have hF_219 := jDcc.full (ph1 := phn_219) (hh_217.iv 0 rfl) hg_50 (hh_217.at 6 rfl) (hh_217.at 7 rfl) ⟨(hh_217.2.2.1.sub (L1 := [(ret_12, 3, 4, .int qs_174), (ret_12, 3, 10, .int qk_179), (ret_12, 3, 11, .null)]) [2, 1, 0] rfl), (hh_217.2.2.2.2.2.2.2.1.sub (L1 := [(yb_75, 171, 40, ca 1, gb_174), (ye_75, 172, 40, ca 1, ge_174)]) [0, 1] rfl), (hr_175_2.mono (by omega)), by omega⟩ (w := (575 * (qs_174.toInt - qk_179.toInt) + (1500 - jEd ge_174 qk_179.toInt)).toNat) (fun _ => jPo.mkN (by omega)) (by omega) (fun _ => by omega)
                        have hh_220 := hh_217.sub (L1 := [(ret_12, 3, 11, .null), (ret_12, 3, 10, .int qk_179), (ret_12, 3, 4, .int qs_174), (ret_12, 3, 3, .int length_178), (kernel_170, 7, 1, .ref syntax_173), (r0, 13, 5, .ref kernel_170), (ret_12, 3, 5, .ref yb_75), (ret_12, 3, 6, .ref ye_75), (ret_12, 3, 1, .int r_73), (r0, 13, 15, .ref spare_69), (bo, 2, 1, .int qc_47), (op, 1, 2, .int qz_47), (bo, 2, 0, .ref qa_47), (r0, 13, 4, .ref bo), (r0, 13, 3, .ref ou), (r0, 13, 2, .ref js), (js, 6, 7, .int pv), (js, 6, 8, .int pu), (js, 6, 0, .ref wk), (js, 6, 1, .ref wi), (js, 6, 2, .ref wz), (js, 6, 4, .ref jkf), (js, 6, 5, .ref jks), (r0, 13, 1, .ref fm), (fm, 4, 1, .int fl), (r0, 13, 7, .ref op)]) [0, 1, 2, 3, 4, 5, 6, 7, 8, 9, 10, 11, 12, 13, 14, 15, 16, 17, 18, 19, 20, 21, 22, 23, 24, 25] rfl (M1 := [(yb_75, 171, 40, ca 1, gb_174), (ye_75, 172, 40, ca 1, ge_174), (wk, 140, 1502, ca 1, fk), (wi, 141, 1502, ca 1, fi), (wz, 142, 1502, ca 1, fz), (jkf, 144, 1502, ca 1, fa), (jks, 145, 1502, ca 1, fs)]) [0, 1, 2, 3, 4, 5, 6] rfl (I1 := [([(2, 0), (2, 1)], jOl (dC, dI) G0 2 [bo, ou] s.heap), (jFy, jYb dC dI G_47), (jFl, jLs dC dI ca G_47 3 none)]) [1, 2, 3] rfl
                        clear hh_217
                        have hh_221 := hh_220.addI (jDcc.ie hF_219)
                        clear hh_220
                        refine lv_aload hx hb dX11_changeDocument_239 (lv_at hl 4 rfl) ?_
                        refine j7_read hx hb hown hK (C := RX1) (T := TX1) (N := 17) rfl hly_3_10 hlk_171 (hh_221.at 1 rfl) dX11_changeDocument_241 ?_
                        refine lv_aload hx hb dX11_changeDocument_244 (lv_at hl 4 rfl) ?_
                        refine j7_read hx hb hown hK (C := RX1) (T := TX1) (N := 17) rfl hly_3_4 hlk_168 (hh_221.at 2 rfl) dX11_changeDocument_246 ?_
                        refine lv_icmp_ne (tgt := 259) hx hb dX11_changeDocument_249 (by decide) (fun c_222 => ?_) (fun c_222 => ?_)
                        · skip
                          have c_222' : qk_179.toInt ≠ qs_174.toInt := jb_ne (rfl) (rfl) c_222
                          try clear hsz_217 htt_217 hrc_217 hrs_217
                          have hsz_223 := hh_221.2.2.2.2.2.1
                          have htt_223 := hh_221.2.2.2.2.2.2.1
                          refine W.room (fun hrc_223 hrs_223 => ?_)
                          refine W.widen (k := LC - s.heap.size) (n := LS - jTot s.heap) (by omega) (by omega) ?_
                          rw [hQ]
                          exact W.vret hx hb hr (fun t ht hW => ⟨⟨(qc_47, qa_47, m_qa_47, phn_219, G_47), rfl, by (try dsimp only); exact ⟨(by first | (with_reducible assumption) | omega | rfl | fail), (by first | (with_reducible assumption) | omega | rfl | fail), (by first | (with_reducible assumption) | omega | rfl | fail), (by first | (with_reducible assumption) | omega | rfl | fail), (by first | assumption | fail | omega), (by first | (with_reducible assumption) | omega | rfl | fail)⟩, ⟨hh_221.ra (by first | (simp only; omega) | omega) (by first | (simp only; omega) | omega) (M1 := [(bo, 2, 1, .int qc_47), (bo, 2, 0, .ref qa_47)]) [10, 12] rfl ht, hgq_47_0, hNn_47, by rw [ht]; exact hh_221.iv 1 rfl, by rw [ht]; exact hh_221.2.2.2.2.2.2.2.2.sub (L1 := [(jFy, jYb dC dI G_47), (jFl, jLs dC dI ca G_47 3 none), (jFdo, jDcc dC dI ca G_47 none phn_219)]) [2, 3, 0] rfl⟩⟩, by rw [ht]; try exact hh_221.1.1, fun q h9 hq => by rw [ht]; try exact hh_221.1.2.1 q h9 hq⟩) hh_221.1.2.2 dX11_changeDocument_259
                        · skip
                          have c_222' : qk_179.toInt = qs_174.toInt := jb_ne_n (rfl) (rfl) c_222
                          first | (have hr_180p_3q := hr_180p_3.resolve_left (by omega); clear hr_180p_3) | (have hr_180p_3q := hr_180p_3.resolve_right (by omega); clear hr_180p_3) | skip
                          refine lv_aload_n hx hb dX11_changeDocument_252 rfl (lv_at hl 0 rfl) ?_
                          refine lv_aload hx hb dX11_changeDocument_253 (lv_at hl 4 rfl) ?_
                          refine lv_iconst (v := 1) hx hb dX11_changeDocument_255 (by decide) ?_
                          try clear hsz_217 htt_217 hrc_217 hrs_217
                          have hsz_224 := hh_221.2.2.2.2.2.1
                          have htt_224 := hh_221.2.2.2.2.2.2.1
                          refine W.room (fun hrc_224 hrs_224 => ?_)
                          refine va_callv (A0 := jA base) (H0 := s.heap) (va_runV (As := [.ref ret_12, .int 1]) (rest := []) ⟨hx, hb, hml, hown, hts⟩ (uX11_publish l dC dI ca base B hB hAp hB2 hB3 hB4 hB11 hB13 hB101 hB171 hB172 hB196 hB210 G_47 H_217 r0 ret_12 1 bo qc_47 qa_47 m_qa_47 ou LC LS) (cwV 2 hts (jgV (jWr_39 _ (List.mem_of_getElem? (i := 19) rfl)) (jWr_39 _ (List.mem_of_getElem? (i := 20) rfl)) (jWr_39 _ (List.mem_of_getElem? (i := 21) rfl)) (jWr_1 _ (List.mem_of_getElem? (i := 2) rfl)) (jWr_39 _ (List.mem_of_getElem? (i := 22) rfl))) rfl rfl rfl (by decide +kernel) ⟨by rw [← hR]; exact Nat.le_of_ble_eq_true rfl, by rw [← hR]; exact Nat.le_of_ble_eq_true rfl⟩) ⟨fun a U g mk q => by obtain ⟨q0, q1, q2, qK, q10, q11, q12, q13, q14, q15, q16, q17, q18, q19⟩ := q; exact ⟨q0, q1, q2, jG.calling g mk a qK, (va_K.moved (Vm.Alike.refl U.vm) q10), q11, q12, q13, q14, q15, q16, q17, q18, q19⟩, hh_221.recv (C := RX11) (T := TX11) (N := 19) hB13 rfl (by decide) hg_49 hK, fun U hU hW => ⟨rfl, hU, hh_221.2.1, hG.step hW hU hh_221.1, va_K.moved hW.alike hK2, hg_50, hg_49, (Or.inr rfl), hg_51, hgq_47_0, hg_52, (hh_221.2.2.1.sub (L1 := [(r0, 13, 4, .ref bo), (bo, 2, 1, .int qc_47), (bo, 2, 0, .ref qa_47), (r0, 13, 3, .ref ou)]) [13, 10, 12, 14] rfl), (hh_221.2.2.2.2.2.2.2.2.sub (L1 := [(jFy, jYb dC dI G_47)]) [2] rfl), (by omega), (by omega), ⟨(by first | (with_reducible assumption) | omega | rfl | fail), (by first | (with_reducible assumption) | omega | rfl | fail), (by first | (with_reducible assumption) | omega | rfl | fail), (by first | (with_reducible assumption) | omega | rfl | fail), (by first | assumption | fail | omega)⟩⟩⟩ rfl rfl hl.1 rfl (lv_room (Nat.le_of_ble_eq_true rfl)) dX11_changeDocument_256 ⟨by rw [hRc]; omega, by rw [hRs]; omega⟩) hh_221.1 (fun q _ h => h) (fun q h => h) (fun u_224 t_224 H_224 locs_224 ht_224 hvm_224 hr_225 hb_224 hz_224 hk_224 hS_224 => ?_)
                          obtain ⟨qc_224, qa_224, m_qa_224, G_224⟩ := u_224
                          rw [ht_224] at hb_224
                          simp only at hb_224
                          obtain ⟨⟨hb_2241, hb_2242, hb_2243, hb_2244, hb_2245, hb_2246⟩, hgq_224_0, hN_224, hbO_224, hbE_224⟩ := hb_224
                          have hh_224 : jSt (dC, dI) B base G0 G_224 EX11_changeDocument s.heap ((0 + ((m_qa_47 - n_pa) / 16)) + ((m_qa_224 - m_qa_47) / 16)) ((0 + (2 * (m_qa_47 - n_pa))) + (2 * (m_qa_224 - m_qa_47))) [(bo, 2, 1, .int qc_224), (bo, 2, 0, .ref qa_224), (ret_12, 3, 11, .null), (ret_12, 3, 10, .int qk_179), (ret_12, 3, 4, .int qs_174), (ret_12, 3, 3, .int length_178), (kernel_170, 7, 1, .ref syntax_173), (r0, 13, 5, .ref kernel_170), (ret_12, 3, 5, .ref yb_75), (ret_12, 3, 6, .ref ye_75), (ret_12, 3, 1, .int r_73), (r0, 13, 15, .ref spare_69), (op, 1, 2, .int qz_47), (r0, 13, 4, .ref bo), (r0, 13, 3, .ref ou), (r0, 13, 2, .ref js), (js, 6, 7, .int pv), (js, 6, 8, .int pu), (js, 6, 0, .ref wk), (js, 6, 1, .ref wi), (js, 6, 2, .ref wz), (js, 6, 4, .ref jkf), (js, 6, 5, .ref jks), (r0, 13, 1, .ref fm), (fm, 4, 1, .int fl), (r0, 13, 7, .ref op)] [(yb_75, 171, 40, ca 1, gb_174), (ye_75, 172, 40, ca 1, ge_174), (wk, 140, 1502, ca 1, fk), (wi, 141, 1502, ca 1, fi), (wz, 142, 1502, ca 1, fz), (jkf, 144, 1502, ca 1, fa), (jks, 145, 1502, ca 1, fs)] [(jFdo, jDcc dC dI ca G_47 none phn_219), (jFl, jLs dC dI ca G_47 3 none)] H_224 locs_224 := (hh_221.callG hb_2241 hb_2242 hb_2243 hb_2244 hb_2245 hS_224 rfl (L1 := [(ret_12, 3, 11, .null), (ret_12, 3, 10, .int qk_179), (ret_12, 3, 4, .int qs_174), (ret_12, 3, 3, .int length_178), (kernel_170, 7, 1, .ref syntax_173), (r0, 13, 5, .ref kernel_170), (ret_12, 3, 5, .ref yb_75), (ret_12, 3, 6, .ref ye_75), (ret_12, 3, 1, .int r_73), (r0, 13, 15, .ref spare_69), (op, 1, 2, .int qz_47), (r0, 13, 4, .ref bo), (r0, 13, 3, .ref ou), (r0, 13, 2, .ref js), (js, 6, 7, .int pv), (js, 6, 8, .int pu), (js, 6, 0, .ref wk), (js, 6, 1, .ref wi), (js, 6, 2, .ref wz), (js, 6, 4, .ref jkf), (js, 6, 5, .ref jks), (r0, 13, 1, .ref fm), (fm, 4, 1, .int fl), (r0, 13, 7, .ref op)]) [0, 1, 2, 3, 4, 5, 6, 7, 8, 9, 11, 13, 14, 15, 16, 17, 18, 19, 20, 21, 22, 23, 24, 25] rfl rfl (M1 := [(yb_75, 171, 40, ca 1, gb_174), (ye_75, 172, 40, ca 1, ge_174), (wk, 140, 1502, ca 1, fk), (wi, 141, 1502, ca 1, fi), (wz, 142, 1502, ca 1, fz), (jkf, 144, 1502, ca 1, fa), (jks, 145, 1502, ca 1, fs)]) [0, 1, 2, 3, 4, 5, 6] rfl rfl (I1 := [(jFdo, jDcc dC dI ca G_47 none phn_219), (jFl, jLs dC dI ca G_47 3 none)]) [0, 3] rfl rfl).more hb_2246
                          have hNn_224 : (jNk [0, 1, 2, 3, 4, 5, 6, 7, 8, 9, 10, 11, 12, 13, 14, 15, 16]) G0 G_224 := (hNn_47).tr hN_224
                          have hg_226 := hb_2242 _ _ hg_49
                          have hg_227 := hb_2242 _ _ hg_50
                          have hg_228 := hb_2242 _ _ hg_syntax_173
                          have hg_229 := hb_2242 _ _ hg_kernel_170
                          have hg_230 := hb_2242 _ _ hgb_75
                          have hg_231 := hb_2242 _ _ hge_75
                          have hg_232 := hb_2242 _ _ hg_spare_69
                          have hg_233 := hb_2242 _ _ hg_51
                          have hg_234 := hb_2242 _ _ hg_52
                          have hg_235 := hb_2242 _ _ hg_53
                          have hg_236 := hb_2242 _ _ hg_54
                          have hg_237 := hb_2242 _ _ hg_55
                          have hg_238 := hb_2242 _ _ hg_56
                          have hg_239 := hb_2242 _ _ hg_57
                          have hg_240 := hb_2242 _ _ hg_58
                          have hg_241 := hb_2242 _ _ hg_59
                          have hg_242 := hb_2242 _ _ hg_60
                          have hd_243 := jDcc.grow (hh_224.iv 0 rfl) hb_2242 hN_224 (by decide)
                          have hh_244 := hh_224.sub (L1 := [(bo, 2, 1, .int qc_224), (bo, 2, 0, .ref qa_224), (ret_12, 3, 11, .null), (ret_12, 3, 10, .int qk_179), (ret_12, 3, 4, .int qs_174), (ret_12, 3, 3, .int length_178), (kernel_170, 7, 1, .ref syntax_173), (r0, 13, 5, .ref kernel_170), (ret_12, 3, 5, .ref yb_75), (ret_12, 3, 6, .ref ye_75), (ret_12, 3, 1, .int r_73), (r0, 13, 15, .ref spare_69), (op, 1, 2, .int qz_47), (r0, 13, 4, .ref bo), (r0, 13, 3, .ref ou), (r0, 13, 2, .ref js), (js, 6, 7, .int pv), (js, 6, 8, .int pu), (js, 6, 0, .ref wk), (js, 6, 1, .ref wi), (js, 6, 2, .ref wz), (js, 6, 4, .ref jkf), (js, 6, 5, .ref jks), (r0, 13, 1, .ref fm), (fm, 4, 1, .int fl), (r0, 13, 7, .ref op)]) [0, 1, 2, 3, 4, 5, 6, 7, 8, 9, 10, 11, 12, 13, 14, 15, 16, 17, 18, 19, 20, 21, 22, 23, 24, 25] rfl (M1 := [(yb_75, 171, 40, ca 1, gb_174), (ye_75, 172, 40, ca 1, ge_174), (wk, 140, 1502, ca 1, fk), (wi, 141, 1502, ca 1, fi), (wz, 142, 1502, ca 1, fz), (jkf, 144, 1502, ca 1, fa), (jks, 145, 1502, ca 1, fs)]) [0, 1, 2, 3, 4, 5, 6] rfl (I1 := [(jFl, jLs dC dI ca G_47 3 none)]) [1] rfl
                          clear hh_224
                          have hh_245 := hh_244.addI (jDcc.ie hd_243)
                          clear hh_244
                          have hd_246 := jLs.grow (hh_245.iv 1 rfl) hb_2242 hN_224 (by decide)
                          have hh_247 := hh_245.sub (L1 := [(bo, 2, 1, .int qc_224), (bo, 2, 0, .ref qa_224), (ret_12, 3, 11, .null), (ret_12, 3, 10, .int qk_179), (ret_12, 3, 4, .int qs_174), (ret_12, 3, 3, .int length_178), (kernel_170, 7, 1, .ref syntax_173), (r0, 13, 5, .ref kernel_170), (ret_12, 3, 5, .ref yb_75), (ret_12, 3, 6, .ref ye_75), (ret_12, 3, 1, .int r_73), (r0, 13, 15, .ref spare_69), (op, 1, 2, .int qz_47), (r0, 13, 4, .ref bo), (r0, 13, 3, .ref ou), (r0, 13, 2, .ref js), (js, 6, 7, .int pv), (js, 6, 8, .int pu), (js, 6, 0, .ref wk), (js, 6, 1, .ref wi), (js, 6, 2, .ref wz), (js, 6, 4, .ref jkf), (js, 6, 5, .ref jks), (r0, 13, 1, .ref fm), (fm, 4, 1, .int fl), (r0, 13, 7, .ref op)]) [0, 1, 2, 3, 4, 5, 6, 7, 8, 9, 10, 11, 12, 13, 14, 15, 16, 17, 18, 19, 20, 21, 22, 23, 24, 25] rfl (M1 := [(yb_75, 171, 40, ca 1, gb_174), (ye_75, 172, 40, ca 1, ge_174), (wk, 140, 1502, ca 1, fk), (wi, 141, 1502, ca 1, fi), (wz, 142, 1502, ca 1, fz), (jkf, 144, 1502, ca 1, fa), (jks, 145, 1502, ca 1, fs)]) [0, 1, 2, 3, 4, 5, 6] rfl (I1 := [(jFdo, jDcc dC dI ca G_224 none phn_219)]) [0] rfl
                          clear hh_245
                          have hh_248 := hh_247.addI (jLs.ie hd_246)
                          clear hh_247
                          have hh_249 := hh_248.addIs hbE_224
                          have hd_250 := jOl.trL (hh_221.iv 1 rfl) hh_221.2.2.2.2.1 hbO_224 (by simp)
                          have hh_251 := hh_249.addI (jOl.ie (dC := dC) (dI := dI) (G0 := G0) (k := 2) (rs := [bo, ou]) (H0 := s.heap) (F := [(2, 0), (2, 1)]) (C := RX0) (T := TX0) (N := 2) rfl (by decide) hh_249.2.2.2.2.1 (hd_250))
                          clear hh_249
                          try simp only at hr_225
                          obtain ⟨hr_225_0, hr_225_1, hr_225_2, hr_225_3, hr_225_4⟩ := hr_225
                          try clear hsz_224 htt_224 hrc_224 hrs_224
                          have hsz_252 := hh_251.2.2.2.2.2.1
                          have htt_252 := hh_251.2.2.2.2.2.2.1
                          refine W.room (fun hrc_252 hrs_252 => ?_)
                          refine W.widen (k := LC - s.heap.size) (n := LS - jTot s.heap) (by omega) (by omega) ?_
                          rw [hQ]
                          exact W.vret hx hb hr (fun t ht hW => ⟨⟨(qc_224, qa_224, m_qa_224, phn_219, G_224), rfl, by (try dsimp only); exact ⟨(by first | (with_reducible assumption) | omega | rfl | fail), (by first | (with_reducible assumption) | omega | rfl | fail), (by first | (with_reducible assumption) | omega | rfl | fail), (by first | (with_reducible assumption) | omega | rfl | fail), (by first | assumption | fail | omega), (by first | (with_reducible assumption) | omega | rfl | fail)⟩, ⟨hh_251.ra (by first | (simp only; omega) | omega) (by first | (simp only; omega) | omega) (M1 := [(bo, 2, 1, .int qc_224), (bo, 2, 0, .ref qa_224)]) [0, 1] rfl ht, hgq_224_0, hNn_224, by rw [ht]; exact hh_251.iv 0 rfl, by rw [ht]; exact hh_251.2.2.2.2.2.2.2.2.sub (L1 := [(jFy, jYb dC dI G_224), (jFl, jLs dC dI ca G_224 3 none), (jFdo, jDcc dC dI ca G_224 none phn_219)]) [1, 2, 3] rfl⟩⟩, by rw [ht]; try exact hh_251.1.1, fun q h9 hq => by rw [ht]; try exact hh_251.1.2.1 q h9 hq⟩) hh_251.1.2.2 dX11_changeDocument_259
                  · skip
                    have c_46' : v6_43.toInt < r_45.toInt := jb_ge_n (rfl) (rfl) c_46
                    first | (have hr_45q := hr_45.resolve_left (by omega); clear hr_45) | (have hr_45q := hr_45.resolve_right (by omega); clear hr_45) | try clear hr_45
                    refine lv_aload_n hx hb dX11_changeDocument_158 rfl (lv_at hl 0 rfl) ?_
                    refine lv_iload hx hb dX11_changeDocument_159 (lv_at hl 5 rfl) ?_
                    try clear hsz_44 htt_44 hrc_44 hrs_44
                    have hsz_253 := hh_44.2.2.2.2.2.1
                    have htt_253 := hh_44.2.2.2.2.2.2.1
                    refine W.room (fun hrc_253 hrs_253 => ?_)
                    refine va_calli (A0 := jA base) (H0 := s.heap) (va_runV (As := [.int v5_43]) (rest := []) ⟨hx, hb, hml, hown, hts⟩ (uX11_makeChange l dC dI ca base B hB hAp hB3 hB6 hB13 hB101 hB140 hB141 hB142 hB143 hB144 hB145 hB146 G0 H_44 r0 v5_43 js pv pu wk wi wz jks fk fi fz fs) (cwV 1 hts (jgV (jWr_41 _ (List.mem_of_getElem? (i := 16) rfl)) (jWr_41 _ (List.mem_of_getElem? (i := 17) rfl)) (jWr_41 _ (List.mem_of_getElem? (i := 18) rfl)) (jWr_1 _ (List.mem_of_getElem? (i := 2) rfl)) (jWr_41 _ (List.mem_of_getElem? (i := 19) rfl))) rfl rfl rfl (by decide +kernel) ⟨by rw [← hR]; exact Nat.le_of_ble_eq_true rfl, by rw [← hR]; exact Nat.le_of_ble_eq_true rfl⟩) ⟨fun a U g mk q => by obtain ⟨q0, q1, q2, qK, q10, q11, q12, q13, q14, q15, q16, q17, q18⟩ := q; exact ⟨q0, q1, q2, jG.calling g mk a qK, q10, q11, q12, q13, q14, q15, q16, q17, q18⟩, hh_44.recv (C := RX11) (T := TX11) (N := 19) hB13 rfl (by decide) hg_r0 hK, fun U hU hW => ⟨rfl, hU, hh_44.2.1, hG.step hW hU hh_44.1, hg_r0, hg_js, hg_wk, hg_wi, hg_wz, hg_jks, (hh_44.2.2.1.sub (L1 := [(r0, 13, 2, .ref js), (js, 6, 7, .int pv), (js, 6, 8, .int pu), (js, 6, 0, .ref wk), (js, 6, 1, .ref wi), (js, 6, 2, .ref wz), (js, 6, 5, .ref jks)]) [5, 6, 7, 8, 9, 10, 12] rfl), (hh_44.2.2.2.2.2.2.2.1.sub (L1 := [(wk, 140, 1502, ca 1, fk), (wi, 141, 1502, ca 1, fi), (wz, 142, 1502, ca 1, fz), (jks, 145, 1502, ca 1, fs)]) [0, 1, 2, 4] rfl), ⟨(by first | (with_reducible assumption) | omega | rfl | fail), (by first | (with_reducible assumption) | omega | rfl | fail), (by first | (with_reducible assumption) | omega | rfl | fail), (by first | (with_reducible assumption) | omega | rfl | fail), (by first | assumption | fail | omega), (by first | assumption | fail | omega)⟩⟩⟩ rfl rfl hl.1 rfl (lv_room (Nat.le_of_ble_eq_true rfl)) dX11_changeDocument_161 ⟨by rw [hRc]; show _ + 0 ≤ _; omega, by rw [hRs]; show _ + 0 ≤ _; omega⟩) hh_44.1 (fun q _ h => h) (fun q h => h) (fun r_254 u_253 t_253 H_253 locs_253 ht_253 hvm_253 hr_254 hb_253 hz_253 hk_253 hS_253 => ?_)
                    rw [ht_253] at hb_253
                    obtain ⟨hb_2531, hb_2532, hb_2533, hb_2534, hb_2535⟩ := hb_253
                    have hh_253 : jSt (dC, dI) B base G0 G0 EX11_changeDocument s.heap 0 0 [(ret_12, 3, 1, .int version_22), (r0, 13, 4, .ref bo), (bo, 2, 1, .int pc), (bo, 2, 0, .ref pa), (r0, 13, 3, .ref ou), (r0, 13, 2, .ref js), (js, 6, 7, .int pv), (js, 6, 8, .int pu), (js, 6, 0, .ref wk), (js, 6, 1, .ref wi), (js, 6, 2, .ref wz), (js, 6, 4, .ref jkf), (js, 6, 5, .ref jks), (r0, 13, 1, .ref fm), (fm, 4, 1, .int fl), (r0, 13, 7, .ref op), (op, 1, 2, .int sz)] [(wk, 140, 1502, ca 1, fk), (wi, 141, 1502, ca 1, fi), (wz, 142, 1502, ca 1, fz), (jkf, 144, 1502, ca 1, fa), (jks, 145, 1502, ca 1, fs)] [(jFl, jLs dC dI ca G0 3 none), ([(2, 0), (2, 1)], jOl (dC, dI) G0 2 [bo, ou] s.heap), (jFy, jYb dC dI G0), (jFdo, jDcc dC dI ca G0 none ph)] H_253 locs_253 := ((hh_44.call hb_2531 hb_2532 hb_2533 hb_2534 hS_253 rfl (L1 := [(ret_12, 3, 1, .int version_22), (r0, 13, 4, .ref bo), (bo, 2, 1, .int pc), (bo, 2, 0, .ref pa), (r0, 13, 3, .ref ou), (r0, 13, 2, .ref js), (js, 6, 7, .int pv), (js, 6, 8, .int pu), (js, 6, 0, .ref wk), (js, 6, 1, .ref wi), (js, 6, 2, .ref wz), (js, 6, 4, .ref jkf), (js, 6, 5, .ref jks), (r0, 13, 1, .ref fm), (fm, 4, 1, .int fl), (r0, 13, 7, .ref op), (op, 1, 2, .int sz)]) [0, 1, 2, 3, 4, 5, 6, 7, 8, 9, 10, 11, 12, 13, 14, 15, 16] rfl rfl (M1 := [(wk, 140, 1502, ca 1, fk), (wi, 141, 1502, ca 1, fi), (wz, 142, 1502, ca 1, fz), (jkf, 144, 1502, ca 1, fa), (jks, 145, 1502, ca 1, fs)]) [0, 1, 2, 3, 4] rfl rfl (I1 := [(jFl, jLs dC dI ca G0 3 none), ([(2, 0), (2, 1)], jOl (dC, dI) G0 2 [bo, ou] s.heap), (jFy, jYb dC dI G0), (jFdo, jDcc dC dI ca G0 none ph)]) [0, 1, 2, 3] rfl rfl).more hb_2535)
                    clear hh_44 ht_253 hvm_253 hz_253 hk_253 hS_253 hb_2531 hb_2532 hb_2533 hb_2534 hb_2535
                    obtain ⟨hr_254b, hr_254p⟩ := hr_254
                    have hr_254po := jOr.of hr_254p
                    clear hr_254p
                    have hr_254p := hr_254po
                    clear hr_254po
                    have hr_254' := jb_01 hr_254b
                    refine lv_if_ne (tgt := 168) hx hb dX11_changeDocument_164 (by decide) (fun c_255 => ?_) (fun c_255 => ?_)
                    · skip
                      have c_255' : r_254.toInt ≠ 0 := jb_ne (rfl) ((by decide)) c_255
                      first | (have hr_254pq := hr_254p.resolve_left (by omega); clear hr_254p) | (have hr_254pq := hr_254p.resolve_right (by omega); clear hr_254p) | try clear hr_254p
                      refine lv_aload_n hx hb dX11_changeDocument_168 rfl (lv_at hl 0 rfl) ?_
                      refine j7_read hx hb hown hK (C := RX11) (T := TX11) (N := 19) rfl hly_13_2 hlk_28 (hh_253.at 5 rfl) dX11_changeDocument_169 ?_
                      refine lv_iload hx hb dX11_changeDocument_172 (lv_at hl 5 rfl) ?_
                      try clear hsz_253 htt_253 hrc_253 hrs_253
                      have hsz_256 := hh_253.2.2.2.2.2.1
                      have htt_256 := hh_253.2.2.2.2.2.2.1
                      refine W.room (fun hrc_256 hrs_256 => ?_)
                      refine va_calli (A0 := jA base) (H0 := s.heap) (va_runV (As := [.int v5_43]) (rest := []) ⟨hx, hb, hml, hown, hts⟩ (uX4_nextOf l dC dI ca base B hB hAp hB6 hB143 G0 H_253 js v5_43) (cwV 1 hts (jgV (jWr_41 _ (List.mem_of_getElem? (i := 21) rfl)) (jWr_41 _ (List.mem_of_getElem? (i := 22) rfl)) (jWr_41 _ (List.mem_of_getElem? (i := 23) rfl)) (jWr_1 _ (List.mem_of_getElem? (i := 22) rfl)) (jWr_42 _ (List.mem_of_getElem? (i := 0) rfl))) rfl rfl rfl (by decide +kernel) ⟨by rw [← hR]; exact Nat.le_of_ble_eq_true rfl, by rw [← hR]; exact Nat.le_of_ble_eq_true rfl⟩) ⟨fun a U g mk q => by obtain ⟨q0, q1, q2, qK, q10, q11, q12⟩ := q; exact ⟨q0, q1, q2, jG.calling g mk a qK, q10, q11, q12⟩, hh_253.recv (C := RX4) (T := TX4) (N := 12) hB6 rfl (by decide) hg_js hK, fun U hU hW => ⟨rfl, hU, hh_253.2.1, hG.step hW hU hh_253.1, hg_js, jP.nil, trivial⟩⟩ rfl rfl hl.1 rfl (lv_room (Nat.le_of_ble_eq_true rfl)) dX11_changeDocument_174 ⟨by rw [hRc]; show _ + 0 ≤ _; omega, by rw [hRs]; show _ + 0 ≤ _; omega⟩) hh_253.1 (fun q _ h => h) (fun q h => h) (fun r_257 u_256 t_256 H_256 locs_256 ht_256 hvm_256 hr_257 hb_256 hz_256 hk_256 hS_256 => ?_)
                      rw [ht_256] at hb_256
                      obtain ⟨hb_2561, hb_2562, hb_2563, hb_2564, hb_2565⟩ := hb_256
                      have hh_256 : jSt (dC, dI) B base G0 G0 EX11_changeDocument s.heap 0 0 [(ret_12, 3, 1, .int version_22), (r0, 13, 4, .ref bo), (bo, 2, 1, .int pc), (bo, 2, 0, .ref pa), (r0, 13, 3, .ref ou), (r0, 13, 2, .ref js), (js, 6, 7, .int pv), (js, 6, 8, .int pu), (js, 6, 0, .ref wk), (js, 6, 1, .ref wi), (js, 6, 2, .ref wz), (js, 6, 4, .ref jkf), (js, 6, 5, .ref jks), (r0, 13, 1, .ref fm), (fm, 4, 1, .int fl), (r0, 13, 7, .ref op), (op, 1, 2, .int sz)] [(wk, 140, 1502, ca 1, fk), (wi, 141, 1502, ca 1, fi), (wz, 142, 1502, ca 1, fz), (jkf, 144, 1502, ca 1, fa), (jks, 145, 1502, ca 1, fs)] [(jFl, jLs dC dI ca G0 3 none), ([(2, 0), (2, 1)], jOl (dC, dI) G0 2 [bo, ou] s.heap), (jFy, jYb dC dI G0), (jFdo, jDcc dC dI ca G0 none ph)] H_256 locs_256 := ((hh_253.call hb_2561 hb_2562 hb_2563 hb_2564 hS_256 rfl (L1 := [(ret_12, 3, 1, .int version_22), (r0, 13, 4, .ref bo), (bo, 2, 1, .int pc), (bo, 2, 0, .ref pa), (r0, 13, 3, .ref ou), (r0, 13, 2, .ref js), (js, 6, 7, .int pv), (js, 6, 8, .int pu), (js, 6, 0, .ref wk), (js, 6, 1, .ref wi), (js, 6, 2, .ref wz), (js, 6, 4, .ref jkf), (js, 6, 5, .ref jks), (r0, 13, 1, .ref fm), (fm, 4, 1, .int fl), (r0, 13, 7, .ref op), (op, 1, 2, .int sz)]) [0, 1, 2, 3, 4, 5, 6, 7, 8, 9, 10, 11, 12, 13, 14, 15, 16] rfl rfl (M1 := [(wk, 140, 1502, ca 1, fk), (wi, 141, 1502, ca 1, fi), (wz, 142, 1502, ca 1, fz), (jkf, 144, 1502, ca 1, fa), (jks, 145, 1502, ca 1, fs)]) [0, 1, 2, 3, 4] rfl rfl (I1 := [(jFl, jLs dC dI ca G0 3 none), ([(2, 0), (2, 1)], jOl (dC, dI) G0 2 [bo, ou] s.heap), (jFy, jYb dC dI G0), (jFdo, jDcc dC dI ca G0 none ph)]) [0, 1, 2, 3] rfl rfl).more hb_2565)
                      clear hh_253 ht_256 hvm_256 hz_256 hk_256 hS_256 hb_2561 hb_2562 hb_2563 hb_2564 hb_2565
                      refine lv_istore (lv' := [(5, .int r_257), (0, .ref r0), (1, .int r_3), (2, .int r_7), (3, .int r_9), (4, .ref ret_12), (6, .int v6_43)]) hx hb dX11_changeDocument_177 hl (by decide) rfl (fun ls hl => ?_)
                      obtain ⟨z_258, ez_258⟩ : ∃ y : Int32, y = v6_43 + 1 := ⟨_, rfl⟩
                      refine lv_iinc (v := z_258) (lv' := [(6, .int z_258), (5, .int r_257), (0, .ref r0), (1, .int r_3), (2, .int r_7), (3, .int r_9), (4, .ref ret_12)]) hx hb dX11_changeDocument_179 hl (k := 6) rfl (by rw [ez_258]; rfl) (by decide) rfl (fun ls hl => ?_)
                      have hz_258 : z_258.toInt = v6_43.toInt + 1 := by rw [ez_258]; exact jb_iadd2 (rfl) (by decide) (by omega)
                      refine lv_goto (tgt := 145) hx hb dX11_changeDocument_182 (by decide) ?_
                      refine W.tight (c2 := 0) (n2 := 0) hh_256.2.2.2.2.2.1 hh_256.2.2.2.2.2.2.1 ?_
                      exact L145 r_257 z_258 _ _ hh_256 (by refine ⟨by omega, by omega, Or.inr (by assumption)⟩) (by omega) _ (lv_sub hl [2, 3, 4, 5, 6, 1, 0] rfl)
                    · skip
                      have c_255' : r_254.toInt = 0 := jb_ne_n (rfl) ((by decide)) c_255
                      first | (have hr_254pq := hr_254p.resolve_left (by omega); clear hr_254p) | (have hr_254pq := hr_254p.resolve_right (by omega); clear hr_254p) | try clear hr_254p
                      try clear hsz_253 htt_253 hrc_253 hrs_253
                      have hsz_259 := hh_253.2.2.2.2.2.1
                      have htt_259 := hh_253.2.2.2.2.2.2.1
                      refine W.room (fun hrc_259 hrs_259 => ?_)
                      refine W.widen (k := LC - s.heap.size) (n := LS - jTot s.heap) (by omega) (by omega) ?_
                      rw [hQ]
                      exact W.vret hx hb hr (fun t ht hW => ⟨⟨(pc, pa, n_pa, ph, G0), rfl, by (try dsimp only); exact ⟨(by first | (with_reducible assumption) | omega | rfl | fail), (by first | (with_reducible assumption) | omega | rfl | fail), (by first | (with_reducible assumption) | omega | rfl | fail), (by first | (with_reducible assumption) | omega | rfl | fail), (by first | assumption | fail | omega), (by first | (with_reducible assumption) | omega | rfl | fail)⟩, ⟨hh_253.ra (by first | (simp only; omega) | omega) (by first | (simp only; omega) | omega) (M1 := [(bo, 2, 1, .int pc), (bo, 2, 0, .ref pa)]) [2, 3] rfl ht, hg_pa, jNk.rf, by rw [ht]; exact hh_253.iv 1 rfl, by rw [ht]; exact hh_253.2.2.2.2.2.2.2.2.sub (L1 := [(jFy, jYb dC dI G0), (jFl, jLs dC dI ca G0 3 none), (jFdo, jDcc dC dI ca G0 none ph)]) [2, 0, 3] rfl⟩⟩, by rw [ht]; try exact hh_253.1.1, fun q h9 hq => by rw [ht]; try exact hh_253.1.2.1 q h9 hq⟩) hh_253.1.2.2 dX11_changeDocument_167
              refine W.tight (c2 := 0) (n2 := 0) hh_41.2.2.2.2.2.1 hh_41.2.2.2.2.2.2.1 ?_
              exact L145 (9 - (0 : Int32).toInt : Int).toNat.succ r_42 0 _ _ (hh_41.sub (L1 := [(ret_12, 3, 1, .int version_22), (r0, 13, 4, .ref bo), (bo, 2, 1, .int pc), (bo, 2, 0, .ref pa), (r0, 13, 3, .ref ou), (r0, 13, 2, .ref js), (js, 6, 7, .int pv), (js, 6, 8, .int pu), (js, 6, 0, .ref wk), (js, 6, 1, .ref wi), (js, 6, 2, .ref wz), (js, 6, 4, .ref jkf), (js, 6, 5, .ref jks), (r0, 13, 1, .ref fm), (fm, 4, 1, .int fl), (r0, 13, 7, .ref op), (op, 1, 2, .int sz)]) [1, 2, 3, 4, 5, 6, 7, 8, 9, 10, 11, 12, 13, 14, 15, 16, 17] rfl (M1 := [(wk, 140, 1502, ca 1, fk), (wi, 141, 1502, ca 1, fi), (wz, 142, 1502, ca 1, fz), (jkf, 144, 1502, ca 1, fa), (jks, 145, 1502, ca 1, fs)]) [0, 1, 2, 3, 4] rfl (I1 := [(jFl, jLs dC dI ca G0 3 none), ([(2, 0), (2, 1)], jOl (dC, dI) G0 2 [bo, ou] s.heap), (jFy, jYb dC dI G0), (jFdo, jDcc dC dI ca G0 none ph)]) [0, 1, 2, 3] rfl) (⟨(by first | (with_reducible assumption) | omega | rfl | fail), (by first | (with_reducible assumption) | omega | rfl | fail), (by first | assumption | fail | omega)⟩) (by omega) _ (lv_sub hl [6, 5, 4, 3, 2, 1, 0] rfl)
            · skip
              have c_35' : r_34.toInt > 8 := jb_le_n (rfl) ((by decide)) c_35
              first | (have hr_34q := hr_34.resolve_left (by omega); clear hr_34) | (have hr_34q := hr_34.resolve_right (by omega); clear hr_34) | try clear hr_34
              first | (have hr_9_2q := hr_9_2.resolve_left (by omega); clear hr_9_2) | (have hr_9_2q := hr_9_2.resolve_right (by omega); clear hr_9_2) | skip
              first | (have hr_5_2q := hr_5_2.resolve_left (by omega); clear hr_5_2) | (have hr_5_2q := hr_5_2.resolve_right (by omega); clear hr_5_2) | try clear hr_5_2
              first | (have hr_3_2q := hr_3_2.resolve_left (by omega); clear hr_3_2) | (have hr_3_2q := hr_3_2.resolve_right (by omega); clear hr_3_2) | skip
              try clear hsz_33 htt_33 hrc_33 hrs_33
              have hsz_260 := hh_33.2.2.2.2.2.1
              have htt_260 := hh_33.2.2.2.2.2.2.1
              refine W.room (fun hrc_260 hrs_260 => ?_)
              refine W.widen (k := LC - s.heap.size) (n := LS - jTot s.heap) (by omega) (by omega) ?_
              rw [hQ]
              exact W.vret hx hb hr (fun t ht hW => ⟨⟨(pc, pa, n_pa, ph, G0), rfl, by (try dsimp only); exact ⟨(by first | (with_reducible assumption) | omega | rfl | fail), (by first | (with_reducible assumption) | omega | rfl | fail), (by first | (with_reducible assumption) | omega | rfl | fail), (by first | (with_reducible assumption) | omega | rfl | fail), (by first | assumption | fail | omega), (by first | (with_reducible assumption) | omega | rfl | fail)⟩, ⟨hh_33.ra (by first | (simp only; omega) | omega) (by first | (simp only; omega) | omega) (M1 := [(bo, 2, 1, .int pc), (bo, 2, 0, .ref pa)]) [2, 3] rfl ht, hg_pa, jNk.rf, by rw [ht]; exact hh_33.iv 1 rfl, by rw [ht]; exact hh_33.2.2.2.2.2.2.2.2.sub (L1 := [(jFy, jYb dC dI G0), (jFl, jLs dC dI ca G0 3 none), (jFdo, jDcc dC dI ca G0 none ph)]) [2, 0, 3] rfl⟩⟩, by rw [ht]; try exact hh_33.1.1, fun q h9 hq => by rw [ht]; try exact hh_33.1.2.1 q h9 hq⟩) hh_33.1.2.2 dX11_changeDocument_122
end
