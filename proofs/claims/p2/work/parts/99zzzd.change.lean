theorem dX11_changeDocument_0 : decode cX11_changeDocument 0 = .ok (.aload_n 0, 1) := by decide +kernel
theorem dX11_changeDocument_1 : decode cX11_changeDocument 1 = .ok (.getfield 28, 3) := by decide +kernel
theorem dX11_changeDocument_4 : decode cX11_changeDocument 4 = .ok (.iconst 0, 1) := by decide +kernel
theorem dX11_changeDocument_5 : decode cX11_changeDocument 5 = .ok (.ldc_w 271, 3) := by decide +kernel
theorem dX11_changeDocument_8 : decode cX11_changeDocument 8 = .ok (.invokevirtual 260, 3) := by decide +kernel
theorem dX11_changeDocument_11 : decode cX11_changeDocument 11 = .ok (.istore_n 1, 1) := by decide +kernel
theorem dX11_changeDocument_12 : decode cX11_changeDocument 12 = .ok (.aload_n 0, 1) := by decide +kernel
theorem dX11_changeDocument_13 : decode cX11_changeDocument 13 = .ok (.getfield 28, 3) := by decide +kernel
theorem dX11_changeDocument_16 : decode cX11_changeDocument 16 = .ok (.aload_n 0, 1) := by decide +kernel
theorem dX11_changeDocument_17 : decode cX11_changeDocument 17 = .ok (.getfield 28, 3) := by decide +kernel
theorem dX11_changeDocument_20 : decode cX11_changeDocument 20 = .ok (.iload_n 1, 1) := by decide +kernel
theorem dX11_changeDocument_21 : decode cX11_changeDocument 21 = .ok (.ldc_w 344, 3) := by decide +kernel
theorem dX11_changeDocument_24 : decode cX11_changeDocument 24 = .ok (.invokevirtual 260, 3) := by decide +kernel
theorem dX11_changeDocument_27 : decode cX11_changeDocument 27 = .ok (.ldc_w 354, 3) := by decide +kernel
theorem dX11_changeDocument_30 : decode cX11_changeDocument 30 = .ok (.invokevirtual 260, 3) := by decide +kernel
theorem dX11_changeDocument_33 : decode cX11_changeDocument 33 = .ok (.istore_n 2, 1) := by decide +kernel
theorem dX11_changeDocument_34 : decode cX11_changeDocument 34 = .ok (.aload_n 0, 1) := by decide +kernel
theorem dX11_changeDocument_35 : decode cX11_changeDocument 35 = .ok (.getfield 28, 3) := by decide +kernel
theorem dX11_changeDocument_38 : decode cX11_changeDocument 38 = .ok (.iload_n 1, 1) := by decide +kernel
theorem dX11_changeDocument_39 : decode cX11_changeDocument 39 = .ok (.ldc_w 382, 3) := by decide +kernel
theorem dX11_changeDocument_42 : decode cX11_changeDocument 42 = .ok (.invokevirtual 260, 3) := by decide +kernel
theorem dX11_changeDocument_45 : decode cX11_changeDocument 45 = .ok (.istore_n 3, 1) := by decide +kernel
theorem dX11_changeDocument_46 : decode cX11_changeDocument 46 = .ok (.aload_n 0, 1) := by decide +kernel
theorem dX11_changeDocument_47 : decode cX11_changeDocument 47 = .ok (.invokevirtual 359, 3) := by decide +kernel
theorem dX11_changeDocument_50 : decode cX11_changeDocument 50 = .ok (.astore 4, 2) := by decide +kernel
theorem dX11_changeDocument_52 : decode cX11_changeDocument 52 = .ok (.aload 4, 2) := by decide +kernel
theorem dX11_changeDocument_54 : decode cX11_changeDocument 54 = .ok (.ifnull 68, 3) := by decide +kernel
theorem dX11_changeDocument_57 : decode cX11_changeDocument 57 = .ok (.aload_n 0, 1) := by decide +kernel
theorem dX11_changeDocument_58 : decode cX11_changeDocument 58 = .ok (.getfield 28, 3) := by decide +kernel
theorem dX11_changeDocument_61 : decode cX11_changeDocument 61 = .ok (.iload_n 2, 1) := by decide +kernel
theorem dX11_changeDocument_62 : decode cX11_changeDocument 62 = .ok (.invokevirtual 283, 3) := by decide +kernel
theorem dX11_changeDocument_65 : decode cX11_changeDocument 65 = .ok (.iconst 4, 1) := by decide +kernel
theorem dX11_changeDocument_66 : decode cX11_changeDocument 66 = .ok (.if_icmp .ne 56, 3) := by decide +kernel
theorem dX11_changeDocument_69 : decode cX11_changeDocument 69 = .ok (.aload_n 0, 1) := by decide +kernel
theorem dX11_changeDocument_70 : decode cX11_changeDocument 70 = .ok (.getfield 28, 3) := by decide +kernel
theorem dX11_changeDocument_73 : decode cX11_changeDocument 73 = .ok (.iload_n 2, 1) := by decide +kernel
theorem dX11_changeDocument_74 : decode cX11_changeDocument 74 = .ok (.invokevirtual 367, 3) := by decide +kernel
theorem dX11_changeDocument_77 : decode cX11_changeDocument 77 = .ok (.aload 4, 2) := by decide +kernel
theorem dX11_changeDocument_79 : decode cX11_changeDocument 79 = .ok (.getfield 162, 3) := by decide +kernel
theorem dX11_changeDocument_82 : decode cX11_changeDocument 82 = .ok (.if_icmp .le 40, 3) := by decide +kernel
theorem dX11_changeDocument_85 : decode cX11_changeDocument 85 = .ok (.aload_n 0, 1) := by decide +kernel
theorem dX11_changeDocument_86 : decode cX11_changeDocument 86 = .ok (.getfield 28, 3) := by decide +kernel
theorem dX11_changeDocument_89 : decode cX11_changeDocument 89 = .ok (.iload_n 3, 1) := by decide +kernel
theorem dX11_changeDocument_90 : decode cX11_changeDocument 90 = .ok (.invokevirtual 283, 3) := by decide +kernel
theorem dX11_changeDocument_93 : decode cX11_changeDocument 93 = .ok (.iconst 2, 1) := by decide +kernel
theorem dX11_changeDocument_94 : decode cX11_changeDocument 94 = .ok (.if_icmp .ne 28, 3) := by decide +kernel
theorem dX11_changeDocument_97 : decode cX11_changeDocument 97 = .ok (.aload_n 0, 1) := by decide +kernel
theorem dX11_changeDocument_98 : decode cX11_changeDocument 98 = .ok (.getfield 28, 3) := by decide +kernel
theorem dX11_changeDocument_101 : decode cX11_changeDocument 101 = .ok (.iload_n 3, 1) := by decide +kernel
theorem dX11_changeDocument_102 : decode cX11_changeDocument 102 = .ok (.invokevirtual 356, 3) := by decide +kernel
theorem dX11_changeDocument_105 : decode cX11_changeDocument 105 = .ok (.iconst 1, 1) := by decide +kernel
theorem dX11_changeDocument_106 : decode cX11_changeDocument 106 = .ok (.if_icmp .lt 16, 3) := by decide +kernel
theorem dX11_changeDocument_109 : decode cX11_changeDocument 109 = .ok (.aload_n 0, 1) := by decide +kernel
theorem dX11_changeDocument_110 : decode cX11_changeDocument 110 = .ok (.getfield 28, 3) := by decide +kernel
theorem dX11_changeDocument_113 : decode cX11_changeDocument 113 = .ok (.iload_n 3, 1) := by decide +kernel
theorem dX11_changeDocument_114 : decode cX11_changeDocument 114 = .ok (.invokevirtual 356, 3) := by decide +kernel
theorem dX11_changeDocument_117 : decode cX11_changeDocument 117 = .ok (.bipush 8, 2) := by decide +kernel
theorem dX11_changeDocument_119 : decode cX11_changeDocument 119 = .ok (.if_icmp .le 4, 3) := by decide +kernel
theorem dX11_changeDocument_122 : decode cX11_changeDocument 122 = .ok (.return_, 1) := by decide +kernel
theorem dX11_changeDocument_123 : decode cX11_changeDocument 123 = .ok (.aload_n 0, 1) := by decide +kernel
theorem dX11_changeDocument_124 : decode cX11_changeDocument 124 = .ok (.getfield 82, 3) := by decide +kernel
theorem dX11_changeDocument_127 : decode cX11_changeDocument 127 = .ok (.aload 4, 2) := by decide +kernel
theorem dX11_changeDocument_129 : decode cX11_changeDocument 129 = .ok (.invokevirtual 384, 3) := by decide +kernel
theorem dX11_changeDocument_132 : decode cX11_changeDocument 132 = .ok (.aload_n 0, 1) := by decide +kernel
theorem dX11_changeDocument_133 : decode cX11_changeDocument 133 = .ok (.getfield 28, 3) := by decide +kernel
theorem dX11_changeDocument_136 : decode cX11_changeDocument 136 = .ok (.iload_n 3, 1) := by decide +kernel
theorem dX11_changeDocument_137 : decode cX11_changeDocument 137 = .ok (.invokevirtual 388, 3) := by decide +kernel
theorem dX11_changeDocument_140 : decode cX11_changeDocument 140 = .ok (.istore 5, 2) := by decide +kernel
theorem dX11_changeDocument_142 : decode cX11_changeDocument 142 = .ok (.iconst 0, 1) := by decide +kernel
theorem dX11_changeDocument_143 : decode cX11_changeDocument 143 = .ok (.istore 6, 2) := by decide +kernel
theorem dX11_changeDocument_145 : decode cX11_changeDocument 145 = .ok (.iload 6, 2) := by decide +kernel
theorem dX11_changeDocument_147 : decode cX11_changeDocument 147 = .ok (.aload_n 0, 1) := by decide +kernel
theorem dX11_changeDocument_148 : decode cX11_changeDocument 148 = .ok (.getfield 28, 3) := by decide +kernel
theorem dX11_changeDocument_151 : decode cX11_changeDocument 151 = .ok (.iload_n 3, 1) := by decide +kernel
theorem dX11_changeDocument_152 : decode cX11_changeDocument 152 = .ok (.invokevirtual 356, 3) := by decide +kernel
theorem dX11_changeDocument_155 : decode cX11_changeDocument 155 = .ok (.if_icmp .ge 30, 3) := by decide +kernel
theorem dX11_changeDocument_158 : decode cX11_changeDocument 158 = .ok (.aload_n 0, 1) := by decide +kernel
theorem dX11_changeDocument_159 : decode cX11_changeDocument 159 = .ok (.iload 5, 2) := by decide +kernel
theorem dX11_changeDocument_161 : decode cX11_changeDocument 161 = .ok (.invokevirtual 391, 3) := by decide +kernel
theorem dX11_changeDocument_164 : decode cX11_changeDocument 164 = .ok (.ifCond .ne 4, 3) := by decide +kernel
theorem dX11_changeDocument_167 : decode cX11_changeDocument 167 = .ok (.return_, 1) := by decide +kernel
theorem dX11_changeDocument_168 : decode cX11_changeDocument 168 = .ok (.aload_n 0, 1) := by decide +kernel
theorem dX11_changeDocument_169 : decode cX11_changeDocument 169 = .ok (.getfield 28, 3) := by decide +kernel
theorem dX11_changeDocument_172 : decode cX11_changeDocument 172 = .ok (.iload 5, 2) := by decide +kernel
theorem dX11_changeDocument_174 : decode cX11_changeDocument 174 = .ok (.invokevirtual 394, 3) := by decide +kernel
theorem dX11_changeDocument_177 : decode cX11_changeDocument 177 = .ok (.istore 5, 2) := by decide +kernel
theorem dX11_changeDocument_179 : decode cX11_changeDocument 179 = .ok (.iinc 6 1, 3) := by decide +kernel
theorem dX11_changeDocument_182 : decode cX11_changeDocument 182 = .ok (.goto (-37), 3) := by decide +kernel
theorem dX11_changeDocument_185 : decode cX11_changeDocument 185 = .ok (.aload_n 0, 1) := by decide +kernel
theorem dX11_changeDocument_186 : decode cX11_changeDocument 186 = .ok (.aload 4, 2) := by decide +kernel
theorem dX11_changeDocument_188 : decode cX11_changeDocument 188 = .ok (.invokevirtual 397, 3) := by decide +kernel
theorem dX11_changeDocument_191 : decode cX11_changeDocument 191 = .ok (.aload 4, 2) := by decide +kernel
theorem dX11_changeDocument_193 : decode cX11_changeDocument 193 = .ok (.aload_n 0, 1) := by decide +kernel
theorem dX11_changeDocument_194 : decode cX11_changeDocument 194 = .ok (.getfield 82, 3) := by decide +kernel
theorem dX11_changeDocument_197 : decode cX11_changeDocument 197 = .ok (.invokevirtual 384, 3) := by decide +kernel
theorem dX11_changeDocument_200 : decode cX11_changeDocument 200 = .ok (.aload 4, 2) := by decide +kernel
theorem dX11_changeDocument_202 : decode cX11_changeDocument 202 = .ok (.aload_n 0, 1) := by decide +kernel
theorem dX11_changeDocument_203 : decode cX11_changeDocument 203 = .ok (.getfield 28, 3) := by decide +kernel
theorem dX11_changeDocument_206 : decode cX11_changeDocument 206 = .ok (.iload_n 2, 1) := by decide +kernel
theorem dX11_changeDocument_207 : decode cX11_changeDocument 207 = .ok (.invokevirtual 367, 3) := by decide +kernel
theorem dX11_changeDocument_210 : decode cX11_changeDocument 210 = .ok (.putfield 162, 3) := by decide +kernel
theorem dX11_changeDocument_213 : decode cX11_changeDocument 213 = .ok (.aload 4, 2) := by decide +kernel
theorem dX11_changeDocument_215 : decode cX11_changeDocument 215 = .ok (.aload_n 0, 1) := by decide +kernel
theorem dX11_changeDocument_216 : decode cX11_changeDocument 216 = .ok (.getfield 41, 3) := by decide +kernel
theorem dX11_changeDocument_219 : decode cX11_changeDocument 219 = .ok (.getfield 203, 3) := by decide +kernel
theorem dX11_changeDocument_222 : decode cX11_changeDocument 222 = .ok (.invokevirtual 207, 3) := by decide +kernel
theorem dX11_changeDocument_225 : decode cX11_changeDocument 225 = .ok (.aload 4, 2) := by decide +kernel
theorem dX11_changeDocument_227 : decode cX11_changeDocument 227 = .ok (.invokevirtual 400, 3) := by decide +kernel
theorem dX11_changeDocument_230 : decode cX11_changeDocument 230 = .ok (.ifCond .ne 9, 3) := by decide +kernel
theorem dX11_changeDocument_233 : decode cX11_changeDocument 233 = .ok (.aload_n 0, 1) := by decide +kernel
theorem dX11_changeDocument_234 : decode cX11_changeDocument 234 = .ok (.aload 4, 2) := by decide +kernel
theorem dX11_changeDocument_236 : decode cX11_changeDocument 236 = .ok (.invokevirtual 403, 3) := by decide +kernel
theorem dX11_changeDocument_239 : decode cX11_changeDocument 239 = .ok (.aload 4, 2) := by decide +kernel
theorem dX11_changeDocument_241 : decode cX11_changeDocument 241 = .ok (.getfield 171, 3) := by decide +kernel
theorem dX11_changeDocument_244 : decode cX11_changeDocument 244 = .ok (.aload 4, 2) := by decide +kernel
theorem dX11_changeDocument_246 : decode cX11_changeDocument 246 = .ok (.getfield 168, 3) := by decide +kernel
theorem dX11_changeDocument_249 : decode cX11_changeDocument 249 = .ok (.if_icmp .ne 10, 3) := by decide +kernel
theorem dX11_changeDocument_252 : decode cX11_changeDocument 252 = .ok (.aload_n 0, 1) := by decide +kernel
theorem dX11_changeDocument_253 : decode cX11_changeDocument 253 = .ok (.aload 4, 2) := by decide +kernel
theorem dX11_changeDocument_255 : decode cX11_changeDocument 255 = .ok (.iconst 1, 1) := by decide +kernel
theorem dX11_changeDocument_256 : decode cX11_changeDocument 256 = .ok (.invokevirtual 378, 3) := by decide +kernel
theorem dX11_changeDocument_259 : decode cX11_changeDocument 259 = .ok (.return_, 1) := by decide +kernel
def EX11_changeDocument : List (Nat × Nat) := [(1, 0), (1, 2), (2, 0), (2, 1), (3, 1), (3, 3), (3, 4), (3, 10), (3, 11), (3, 12), (3, 13), (3, 14), (3, 15), (3, 16), (8, 3), (12, 3), (13, 14), (101, 0), (102, 0), (132, 0), (133, 0), (171, 0), (172, 0), (196, 0), (212, 0), (221, 0), (222, 0), (223, 0), (293, 0)]
set_option maxHeartbeats 4000000 in
set_option maxRecDepth 20000 in
theorem uX11_changeDocument (l : Launch) (dC : Nat → ClassId) (dI : Nat → Nat → Nat) (ca : Nat → ClassId) (base : Nat) (B : jF) (hB : jBok B) (hAp : jAp (dC, dI)) (hB1 : ∀ n G a H, B 1 n G a H ↔ jOb (dC, dI) 1 3 (F1 n G) a H) (hB2 : ∀ n G a H, B 2 n G a H ↔ jOb (dC, dI) 2 2 (F2 n G) a H) (hB3 : ∀ n G a H, B 3 n G a H ↔ jOb (dC, dI) 3 17 (F3 n G) a H) (hB4 : ∀ n G a H, B 4 n G a H ↔ jOb (dC, dI) 4 12 (F4 n G) a H) (hB6 : ∀ n G a H, B 6 n G a H ↔ jOb (dC, dI) 6 12 (F6 n G) a H) (hB7 : ∀ n G a H, B 7 n G a H ↔ jOb (dC, dI) 7 11 (F7 n G) a H) (hB8 : ∀ n G a H, B 8 n G a H ↔ jOb (dC, dI) 8 4 (F8 n G) a H) (hB10 : ∀ n G a H, B 10 n G a H ↔ jOb (dC, dI) 10 5 (F10 n G) a H) (hB11 : ∀ n G a H, B 11 n G a H ↔ jOb (dC, dI) 11 9 (F11 n G) a H) (hB12 : ∀ n G a H, B 12 n G a H ↔ jOb (dC, dI) 12 11 (F12b n G) a H) (hB13 : ∀ n G a H, B 13 n G a H ↔ jOb (dC, dI) 13 19 (F13 n G) a H) (hB101 : ∀ n G a H, B 101 n G a H ↔ jAr (dC, dI) (ca 1) (fun j z => True) n a H) (hB102 : ∀ n G a H, B 102 n G a H ↔ jAl (dC, dI) (ca 2) n a H) (hB132 : ∀ n G a H, B 132 n G a H ↔ jAr (dC, dI) (ca 1) (fun j z => 0 ≤ z.toInt ∧ z.toInt ≤ 10) n a H) (hB133 : ∀ n G a H, B 133 n G a H ↔ jAr (dC, dI) (ca 1) (fun j z => 0 ≤ z.toInt ∧ z.toInt ≤ 8192) n a H) (hB140 : ∀ n G a H, B 140 n G a H ↔ jAr (dC, dI) (ca 1) (fun j z => True) n a H) (hB141 : ∀ n G a H, B 141 n G a H ↔ jAr (dC, dI) (ca 1) (fun j z => True) n a H) (hB142 : ∀ n G a H, B 142 n G a H ↔ jAr (dC, dI) (ca 1) (fun j z => True) n a H) (hB143 : ∀ n G a H, B 143 n G a H ↔ jAr (dC, dI) (ca 1) (fun j z => True) n a H) (hB144 : ∀ n G a H, B 144 n G a H ↔ jAr (dC, dI) (ca 1) (fun j z => 0 ≤ z.toInt ∧ z.toInt ≤ 3000) n a H) (hB145 : ∀ n G a H, B 145 n G a H ↔ jAr (dC, dI) (ca 1) (fun j z => True) n a H) (hB146 : ∀ n G a H, B 146 n G a H ↔ jAr (dC, dI) (ca 1) (fun j z => True) n a H) (hB171 : ∀ n G a H, B 171 n G a H ↔ jAr (dC, dI) (ca 1) (fun j z => 0 ≤ z.toInt ∧ z.toInt ≤ 1500) n a H) (hB172 : ∀ n G a H, B 172 n G a H ↔ jAr (dC, dI) (ca 1) (fun j z => 0 ≤ z.toInt ∧ z.toInt ≤ 1500) n a H) (hB196 : ∀ n G a H, B 196 n G a H ↔ jAr (dC, dI) (ca 0) (fun j z => jBf j z) n a H) (hB210 : ∀ n G a H, B 210 n G a H ↔ jAq (dC, dI) (ca 6) (jQn 11 0) n G a H) (hB212 : ∀ n G a H, B 212 n G a H ↔ jAq (dC, dI) (ca 5) (jQn 3 0) n G a H) (hB221 : ∀ n G a H, B 221 n G a H ↔ jAq (dC, dI) (ca 9) (jQn 3 0) n G a H) (hB222 : ∀ n G a H, B 222 n G a H ↔ jAq (dC, dI) (ca 9) (jQn 10 0) n G a H) (hB293 : ∀ n G a H, B 293 n G a H ↔ jAr (dC, dI) (ca 1) (fun j z => -1 ≤ z.toInt ∧ z.toInt ≤ 8191) n a H) (G0 : jT) (H0 : Heap) (r0 : Nat) (bo : Nat) (pc : Int32) (pa : Nat) (n_pa : Nat) (ou : Nat) (js : Nat) (pv : Int32) (pu : Int32) (wk : Nat) (wi : Nat) (wz : Nat) (jkf : Nat) (jks : Nat) (fm : Nat) (fl : Int32) (op : Nat) (sz : Int32) (ph : Nat) (fk : Nat → Int32) (fi : Nat → Int32) (fz : Nat → Int32) (fa : Nat → Int32) (fs : Nat → Int32) (LC LS : Nat) : Met l yX11_changeDocument (jw yX11_changeDocument cX11_changeDocument 7 none) ({ frames := 8, cells := LC - H0.size, slots := LS - jTot H0, locals := 239 }) (va_Pc [.ref r0] (fun U => U.heap = H0 ∧ jX B base G0 [] H0 ∧ jG dC dI ca base U ∧ jK2 dC dI ca U ∧ jK5 dC dI ca U ∧ jK6 U ∧ jK7 dC dI ca base U ∧ G0 r0 = some (13, 0) ∧ G0 bo = some (2, 0) ∧ G0 pa = some (196, n_pa) ∧ G0 ou = some (2, 20000) ∧ G0 js = some (6, 0) ∧ G0 wk = some (140, 1502) ∧ G0 wi = some (141, 1502) ∧ G0 wz = some (142, 1502) ∧ G0 jkf = some (144, 1502) ∧ G0 jks = some (145, 1502) ∧ G0 fm = some (4, 0) ∧ G0 op = some (1, 1) ∧ jP (dC, dI) G0 H0 [(r0, 13, 4, .ref bo), (bo, 2, 1, .int pc), (bo, 2, 0, .ref pa), (r0, 13, 3, .ref ou), (r0, 13, 2, .ref js), (js, 6, 7, .int pv), (js, 6, 8, .int pu), (js, 6, 0, .ref wk), (js, 6, 1, .ref wi), (js, 6, 2, .ref wz), (js, 6, 4, .ref jkf), (js, 6, 5, .ref jks), (r0, 13, 1, .ref fm), (fm, 4, 1, .int fl), (r0, 13, 7, .ref op), (op, 1, 2, .int sz)] ∧ jMc (dC, dI) G0 H0 [(wk, 140, 1502, ca 1, fk), (wi, 141, 1502, ca 1, fi), (wz, 142, 1502, ca 1, fz), (jkf, 144, 1502, ca 1, fa), (jks, 145, 1502, ca 1, fs)] ∧ jIs (dC, dI) G0 H0 [(jFy, jYb dC dI G0), (jFl, jLs dC dI ca G0 3 none), (jFdo, jDcc dC dI ca G0 none ph)] ∧ H0.size + (1048576 - n_pa) / 16 + 1 + (200 * fl.toInt.toNat) / 16 ≤ LC ∧ jTot H0 + 2 * (1048576 - n_pa) + 200 * fl.toInt.toNat ≤ LS ∧ 0 ≤ pc.toInt ∧ pc.toInt ≤ n_pa ∧ 16 ≤ n_pa ∧ n_pa ≤ 1048576 ∧ jPw n_pa ∧ 0 ≤ pv.toInt ∧ pv.toInt ≤ 1502 ∧ 0 ≤ pu.toInt ∧ pu.toInt ≤ 3000 ∧ jJq fk fi fz pv.toInt ∧ jJu fk fz pv.toInt pu.toInt ∧ jMg (fk, fi, fz, fa, fs) pv.toInt pu.toInt fl.toInt 22 ∧ 0 ≤ fl.toInt ∧ fl.toInt ≤ 3000 ∧ 0 ≤ sz.toInt ∧ sz.toInt ≤ 40)) (va_Qv (S := Int32 × Nat × Nat × Nat × jT) (fun u => 0 ≤ u.1.toInt ∧ u.1.toInt ≤ u.2.2.1 ∧ n_pa ≤ u.2.2.1 ∧ u.2.2.1 ≤ 1048576 ∧ jPw u.2.2.1 ∧ u.2.2.2.1 ≤ ph + 200 * fl.toInt) (fun u t => jRa (dC, dI) B base G0 u.2.2.2.2 EX11_changeDocument H0 ((u.2.2.1 - n_pa) / 16 + (ph + 200 * fl.toInt.toNat - u.2.2.2.1) / 16) (2 * (u.2.2.1 - n_pa) + (ph + 200 * fl.toInt.toNat - u.2.2.2.1)) [(bo, 2, 1, .int u.1), (bo, 2, 0, .ref u.2.1)] t.heap ∧ u.2.2.2.2 u.2.1 = some (196, u.2.2.1) ∧ (jNk [0, 1, 2, 3, 4, 5, 6, 7, 8, 9, 10, 11, 12, 13, 14, 15, 16]) G0 u.2.2.2.2 ∧ jOl (dC, dI) G0 2 [bo, ou] H0 t.heap ∧ jIs (dC, dI) u.2.2.2.2 t.heap [(jFy, jYb dC dI u.2.2.2.2), (jFl, jLs dC dI ca u.2.2.2.2 3 none), (jFdo, jDcc dC dI ca u.2.2.2.2 none (u.2.2.2.1))]) (jA base)) (LC - H0.size) (LS - jTot H0) (jA base) := by
  refine Met.ofW (cc := cX11_changeDocument) (maxL := 7) (ret := none) (by decide) rfl ?_
  intro p e s m args below meth c s₁ Bd hml hv
  obtain ⟨rfl, hH0, hX, hG, hK2, hK5, hK6, hK7, hg_r0, hg_bo, hg_pa, hg_ou, hg_js, hg_wk, hg_wi, hg_wz, hg_jkf, hg_jks, hg_fm, hg_op, hP0, hM0, hI0, hLC0, hLS0, hp0, hp1, hp2, hp3, hp4, hp5, hp6, hp7, hp8, hp9, hp10, hp11, hp12, hp13, hp14, hp15⟩ := hv
  have hK := hG.1
  have hx := Bd.exec
  have hb := Bd.bytes
  have hr := Bd.returns
  have hts := atoms_spec (ws := (jw yX11_changeDocument cX11_changeDocument 7 none)) Bd.pre
  have htw : ∀ w ∈ jWl, w.before _ s = true := fun w h => hts w (List.mem_cons_of_mem _ h)
  have hown : s.vm.findClass RX11 = some m.cls := findClass_of_methodNamed Bd.named
  have hlocks := Bd.notSynchronized
  obtain ⟨Q, hQ⟩ : ∃ Q, Q = MQ below (va_Qv (S := Int32 × Nat × Nat × Nat × jT) (fun u => 0 ≤ u.1.toInt ∧ u.1.toInt ≤ u.2.2.1 ∧ n_pa ≤ u.2.2.1 ∧ u.2.2.1 ≤ 1048576 ∧ jPw u.2.2.1 ∧ u.2.2.2.1 ≤ ph + 200 * fl.toInt) (fun u t => jRa (dC, dI) B base G0 u.2.2.2.2 EX11_changeDocument H0 ((u.2.2.1 - n_pa) / 16 + (ph + 200 * fl.toInt.toNat - u.2.2.2.1) / 16) (2 * (u.2.2.1 - n_pa) + (ph + 200 * fl.toInt.toNat - u.2.2.2.1)) [(bo, 2, 1, .int u.1), (bo, 2, 0, .ref u.2.1)] t.heap ∧ u.2.2.2.2 u.2.1 = some (196, u.2.2.1) ∧ (jNk [0, 1, 2, 3, 4, 5, 6, 7, 8, 9, 10, 11, 12, 13, 14, 15, 16]) G0 u.2.2.2.2 ∧ jOl (dC, dI) G0 2 [bo, ou] H0 t.heap ∧ jIs (dC, dI) u.2.2.2.2 t.heap [(jFy, jYb dC dI u.2.2.2.2), (jFl, jLs dC dI ca u.2.2.2.2 3 none), (jFdo, jDcc dC dI ca u.2.2.2.2 none (u.2.2.2.1))]) (jA base)) ([.ref r0] : List Value).toArray s (LC - H0.size) (LS - jTot H0) (jA base) := ⟨_, rfl⟩
  rw [← hQ]
  have hl := lv_entry ([.ref r0]) (n := 7) (Nat.le_of_ble_eq_true rfl)
  rw [lg_entry_eq]
  generalize (lg_sl ([.ref r0]) ++ List.replicate (7 - (lg_sl ([.ref r0])).length) Slot.unset).toArray = ls at hl ⊢
  have hl : lv_has ls 7 [(0, .ref r0)] := hl
  generalize hR : (headSpec (jw yX11_changeDocument cX11_changeDocument 7 none) ({ frames := 8, cells := LC - H0.size, slots := LS - jTot H0, locals := 239 })).room = R
  subst hH0
  have hh : jSt (dC, dI) B base G0 G0 EX11_changeDocument s.heap 0 0 [(r0, 13, 4, .ref bo), (bo, 2, 1, .int pc), (bo, 2, 0, .ref pa), (r0, 13, 3, .ref ou), (r0, 13, 2, .ref js), (js, 6, 7, .int pv), (js, 6, 8, .int pu), (js, 6, 0, .ref wk), (js, 6, 1, .ref wi), (js, 6, 2, .ref wz), (js, 6, 4, .ref jkf), (js, 6, 5, .ref jks), (r0, 13, 1, .ref fm), (fm, 4, 1, .int fl), (r0, 13, 7, .ref op), (op, 1, 2, .int sz)] [(wk, 140, 1502, ca 1, fk), (wi, 141, 1502, ca 1, fi), (wz, 142, 1502, ca 1, fz), (jkf, 144, 1502, ca 1, fa), (jks, 145, 1502, ca 1, fs)] [(jFy, jYb dC dI G0), (jFl, jLs dC dI ca G0 3 none), (jFdo, jDcc dC dI ca G0 none ph)] s.heap [] := jSt.start hX hP0 hM0 hI0
  clear hX hP0
  have hk0 : (0 : Int32).toInt = 0 := by decide
  have hk1 : (1 : Int32).toInt = 1 := by decide
  have hk2 : (2 : Int32).toInt = 2 := by decide
  have hk4 : (4 : Int32).toInt = 4 := by decide
  have hk8 : (8 : Int32).toInt = 8 := by decide
  have hly_3_1 := htw (u_lay RX1 TX1 1) (jWc_wsX10 _ (u_in_lay (by decide)))
  have hly_3_4 := htw (u_lay RX1 TX1 4) (jWc_wsX10 _ (u_in_lay (by decide)))
  have hly_3_10 := htw (u_lay RX1 TX1 10) (jWc_wsX10 _ (u_in_lay (by decide)))
  have hly_7_1 := htw (u_lay RX5 TX5 1) (jWc_wsX50 _ (u_in_lay (by decide)))
  have hly_13_2 := htw (u_lay RX11 TX11 2) (jWc_wsX110 _ (u_in_lay (by decide)))
  have hly_13_5 := htw (u_lay RX11 TX11 5) (jWc_wsX110 _ (u_in_lay (by decide)))
  have hly_13_15 := htw (u_lay RX11 TX11 15) (jWc_wsX110 _ (u_in_lay (by decide)))
  have hlk_28 := (htw (.fieldLink RX11 28 "ProofServer" "json" "LProofServer$Json;") (jWr_1 _ (List.mem_of_getElem? (i := 23) rfl)))
  obtain ⟨str271, rstr271, hstr2710⟩ := hG.str (o := RX11) (k := 271) (tx := "params") (List.mem_of_getElem? (i := 852) (by decide +kernel))
  have hstr271 : jStr base str271 6 s s.heap := hstr2710
  obtain ⟨str344, rstr344, hstr3440⟩ := hG.str (o := RX11) (k := 344) (tx := "textDocument") (List.mem_of_getElem? (i := 879) (by decide +kernel))
  have hstr344 : jStr base str344 12 s s.heap := hstr3440
  obtain ⟨str354, rstr354, hstr3540⟩ := hG.str (o := RX11) (k := 354) (tx := "version") (List.mem_of_getElem? (i := 1101) (by decide +kernel))
  have hstr354 : jStr base str354 7 s s.heap := hstr3540
  obtain ⟨str382, rstr382, hstr3820⟩ := hG.str (o := RX11) (k := 382) (tx := "contentChanges") (List.mem_of_getElem? (i := 1256) (by decide +kernel))
  have hstr382 : jStr base str382 14 s s.heap := hstr3820
  have hlk_162 := (htw (.fieldLink RX11 162 "ProofServer$Document" "version" "I") (jWr_35 _ (List.mem_of_getElem? (i := 15) rfl)))
  have hlk_82 := (htw (.fieldLink RX11 82 "ProofServer" "spare" "LProofServer$Document;") (jWr_2 _ (List.mem_of_getElem? (i := 22) rfl)))
  have hlk_41 := (htw (.fieldLink RX11 41 "ProofServer" "kernel" "LProofServer$Kernel;") (jWr_2 _ (List.mem_of_getElem? (i := 5) rfl)))
  have hlk_203 := (htw (.fieldLink RX11 203 "ProofServer$Kernel" "syntax" "LProofServer$Syntax;") (jWr_35 _ (List.mem_of_getElem? (i := 16) rfl)))
  have hlk_171 := (htw (.fieldLink RX11 171 "ProofServer$Document" "checked" "I") (jWr_35 _ (List.mem_of_getElem? (i := 17) rfl)))
  have hlk_168 := (htw (.fieldLink RX11 168 "ProofServer$Document" "sentences" "I") (jWr_35 _ (List.mem_of_getElem? (i := 4) rfl)))
  have hbs : base ≤ s.heap.size := Nat.le_of_lt (Nat.lt_of_le_of_lt (hh.ab hg_r0).1 (hh.ab hg_r0).2)
  have hRc : R.cells = LC - s.heap.size := by rw [← hR]; rfl
  have hRs : R.slots = LS - jTot s.heap := by rw [← hR]; rfl
  have hh_1 := hh.addI (jOl.ie (dC := dC) (dI := dI) (G0 := G0) (k := 2) (rs := [bo, ou]) (H0 := s.heap) (F := [(2, 0), (2, 1)]) (C := RX0) (T := TX0) (N := 2) rfl (by decide) hh.2.2.2.2.1 (jOl.rf))
  clear hh
  refine lv_aload_n hx hb dX11_changeDocument_0 rfl (lv_at hl 0 rfl) ?_
  refine j7_read hx hb hown hK (C := RX11) (T := TX11) (N := 19) rfl hly_13_2 hlk_28 (hh_1.at 4 rfl) dX11_changeDocument_1 ?_
  refine lv_iconst (v := 0) hx hb dX11_changeDocument_4 (by decide) ?_
  refine j_ldcSw hx hb hown rstr271 dX11_changeDocument_5 ?_
  have hsz_2 := hh_1.2.2.2.2.2.1
  have htt_2 := hh_1.2.2.2.2.2.2.1
  refine W.room (fun hrc_2 hrs_2 => ?_)
  refine va_calli (A0 := jA base) (H0 := s.heap) (va_runV (As := [.int 0, .ref str271]) (rest := []) ⟨hx, hb, hml, hown, hts⟩ (uX4_memberQ l dC dI ca base B hB hAp hB6 hB140 hB141 hB142 hB143 hB144 hB145 hB146 G0 s.heap js 0 str271 6 pv wk wi wz jks fk fi fz fs) (cwV 2 hts (jgV (jWr_23 _ (List.mem_of_getElem? (i := 10) rfl)) (jWr_23 _ (List.mem_of_getElem? (i := 11) rfl)) (jWr_23 _ (List.mem_of_getElem? (i := 12) rfl)) (jWr_1 _ (List.mem_of_getElem? (i := 22) rfl)) (jWr_23 _ (List.mem_of_getElem? (i := 13) rfl))) rfl rfl rfl (by decide +kernel) ⟨by rw [← hR]; exact Nat.le_of_ble_eq_true rfl, by rw [← hR]; exact Nat.le_of_ble_eq_true rfl⟩) ⟨fun a U g mk q => by obtain ⟨q0, q1, q2, qK, q10, q11, q12, q13, q14, q15, q16, q17, q18⟩ := q; exact ⟨q0, q1, q2, jG.calling g mk a qK, (q10.moved (Vm.Alike.refl U.vm)), q11, q12, q13, q14, q15, q16, q17, q18⟩, hh_1.recv (C := RX4) (T := TX4) (N := 12) hB6 rfl (by decide) hg_js hK, fun U hU hW => ⟨rfl, hU, hh_1.2.1, hG.step hW hU hh_1.1, (hstr271.moved hW.alike).kept hh_1.1.2.1, hg_js, hg_wk, hg_wi, hg_wz, hg_jks, (hh_1.2.2.1.sub (L1 := [(js, 6, 7, .int pv), (js, 6, 0, .ref wk), (js, 6, 1, .ref wi), (js, 6, 2, .ref wz), (js, 6, 5, .ref jks)]) [5, 7, 8, 9, 11] rfl), (hh_1.2.2.2.2.2.2.2.1.sub (L1 := [(wk, 140, 1502, ca 1, fk), (wi, 141, 1502, ca 1, fi), (wz, 142, 1502, ca 1, fz), (jks, 145, 1502, ca 1, fs)]) [0, 1, 2, 4] rfl), ⟨(by first | omega | rfl | assumption | fail), (by first | omega | rfl | assumption | fail), (by first | omega | rfl | assumption | fail)⟩⟩⟩ rfl rfl hl.1 rfl (lv_room (Nat.le_of_ble_eq_true rfl)) dX11_changeDocument_8 ⟨by rw [hRc]; show _ + 0 ≤ _; omega, by rw [hRs]; show _ + 0 ≤ _; omega⟩) hh_1.1 (fun q _ h => h) (fun q h => h) (fun r_3 u_2 t_2 H_2 locs_2 ht_2 hvm_2 hr_3 hb_2 hz_2 hk_2 hS_2 => ?_)
  rw [ht_2] at hb_2
  obtain ⟨hb_2, hbF_2⟩ := hb_2
  obtain ⟨hb_21, hb_22, hb_23, hb_24, hb_25⟩ := hb_2
  have hh_2 : jSt (dC, dI) B base G0 G0 EX11_changeDocument s.heap 0 0 [(r0, 13, 4, .ref bo), (bo, 2, 1, .int pc), (bo, 2, 0, .ref pa), (r0, 13, 3, .ref ou), (r0, 13, 2, .ref js), (js, 6, 7, .int pv), (js, 6, 8, .int pu), (js, 6, 0, .ref wk), (js, 6, 1, .ref wi), (js, 6, 2, .ref wz), (js, 6, 4, .ref jkf), (js, 6, 5, .ref jks), (r0, 13, 1, .ref fm), (fm, 4, 1, .int fl), (r0, 13, 7, .ref op), (op, 1, 2, .int sz)] [(wk, 140, 1502, ca 1, fk), (wi, 141, 1502, ca 1, fi), (wz, 142, 1502, ca 1, fz), (jkf, 144, 1502, ca 1, fa), (jks, 145, 1502, ca 1, fs)] [([(2, 0), (2, 1)], jOl (dC, dI) G0 2 [bo, ou] s.heap), (jFy, jYb dC dI G0), (jFl, jLs dC dI ca G0 3 none), (jFdo, jDcc dC dI ca G0 none ph)] H_2 locs_2 := ((hh_1.call hb_21 hb_22 hb_23 hb_24 hS_2 rfl (L1 := [(r0, 13, 4, .ref bo), (bo, 2, 1, .int pc), (bo, 2, 0, .ref pa), (r0, 13, 3, .ref ou), (r0, 13, 2, .ref js), (js, 6, 7, .int pv), (js, 6, 8, .int pu), (js, 6, 0, .ref wk), (js, 6, 1, .ref wi), (js, 6, 2, .ref wz), (js, 6, 4, .ref jkf), (js, 6, 5, .ref jks), (r0, 13, 1, .ref fm), (fm, 4, 1, .int fl), (r0, 13, 7, .ref op), (op, 1, 2, .int sz)]) [0, 1, 2, 3, 4, 5, 6, 7, 8, 9, 10, 11, 12, 13, 14, 15] rfl rfl (M1 := [(wk, 140, 1502, ca 1, fk), (wi, 141, 1502, ca 1, fi), (wz, 142, 1502, ca 1, fz), (jkf, 144, 1502, ca 1, fa), (jks, 145, 1502, ca 1, fs)]) [0, 1, 2, 3, 4] rfl rfl (I1 := [([(2, 0), (2, 1)], jOl (dC, dI) G0 2 [bo, ou] s.heap), (jFy, jYb dC dI G0), (jFl, jLs dC dI ca G0 3 none), (jFdo, jDcc dC dI ca G0 none ph)]) [0, 1, 2, 3] rfl rfl).more hb_25)
  clear hh_1 ht_2 hvm_2 hz_2 hk_2 hS_2 hb_21 hb_22 hb_23 hb_24 hb_25
  obtain ⟨hr_3_0, hr_3_1, hr_3_2⟩ := hr_3
  have hr_3_2o := jOr.of hr_3_2
  clear hr_3_2
  have hr_3_2 := hr_3_2o
  clear hr_3_2o
  refine lv_istore_n (lv' := [(1, .int r_3), (0, .ref r0)]) hx hb dX11_changeDocument_11 rfl hl (by decide) rfl (fun ls hl => ?_)
  refine lv_aload_n hx hb dX11_changeDocument_12 rfl (lv_at hl 1 rfl) ?_
  refine j7_read hx hb hown hK (C := RX11) (T := TX11) (N := 19) rfl hly_13_2 hlk_28 (hh_2.at 4 rfl) dX11_changeDocument_13 ?_
  refine lv_aload_n hx hb dX11_changeDocument_16 rfl (lv_at hl 1 rfl) ?_
  refine j7_read hx hb hown hK (C := RX11) (T := TX11) (N := 19) rfl hly_13_2 hlk_28 (hh_2.at 4 rfl) dX11_changeDocument_17 ?_
  refine lv_iload_n hx hb dX11_changeDocument_20 rfl (lv_at hl 0 rfl) ?_
  refine j_ldcSw hx hb hown rstr344 dX11_changeDocument_21 ?_
  have hsz_4 := hh_2.2.2.2.2.2.1
  have htt_4 := hh_2.2.2.2.2.2.2.1
  refine W.room (fun hrc_4 hrs_4 => ?_)
  refine va_calli (A0 := jA base) (H0 := s.heap) (va_runV (As := [.int r_3, .ref str344]) (rest := [.ref js]) ⟨hx, hb, hml, hown, hts⟩ (uX4_memberQ l dC dI ca base B hB hAp hB6 hB140 hB141 hB142 hB143 hB144 hB145 hB146 G0 H_2 js r_3 str344 12 pv wk wi wz jks fk fi fz fs) (cwV 2 hts (jgV (jWr_23 _ (List.mem_of_getElem? (i := 10) rfl)) (jWr_23 _ (List.mem_of_getElem? (i := 11) rfl)) (jWr_23 _ (List.mem_of_getElem? (i := 12) rfl)) (jWr_1 _ (List.mem_of_getElem? (i := 22) rfl)) (jWr_23 _ (List.mem_of_getElem? (i := 13) rfl))) rfl rfl rfl (by decide +kernel) ⟨by rw [← hR]; exact Nat.le_of_ble_eq_true rfl, by rw [← hR]; exact Nat.le_of_ble_eq_true rfl⟩) ⟨fun a U g mk q => by obtain ⟨q0, q1, q2, qK, q10, q11, q12, q13, q14, q15, q16, q17, q18⟩ := q; exact ⟨q0, q1, q2, jG.calling g mk a qK, (q10.moved (Vm.Alike.refl U.vm)), q11, q12, q13, q14, q15, q16, q17, q18⟩, hh_2.recv (C := RX4) (T := TX4) (N := 12) hB6 rfl (by decide) hg_js hK, fun U hU hW => ⟨rfl, hU, hh_2.2.1, hG.step hW hU hh_2.1, (hstr344.moved hW.alike).kept hh_2.1.2.1, hg_js, hg_wk, hg_wi, hg_wz, hg_jks, (hh_2.2.2.1.sub (L1 := [(js, 6, 7, .int pv), (js, 6, 0, .ref wk), (js, 6, 1, .ref wi), (js, 6, 2, .ref wz), (js, 6, 5, .ref jks)]) [5, 7, 8, 9, 11] rfl), (hh_2.2.2.2.2.2.2.2.1.sub (L1 := [(wk, 140, 1502, ca 1, fk), (wi, 141, 1502, ca 1, fi), (wz, 142, 1502, ca 1, fz), (jks, 145, 1502, ca 1, fs)]) [0, 1, 2, 4] rfl), ⟨(by first | omega | rfl | assumption | fail), (by first | omega | rfl | assumption | fail), (by first | omega | rfl | assumption | fail)⟩⟩⟩ rfl rfl hl.1 rfl (lv_room (Nat.le_of_ble_eq_true rfl)) dX11_changeDocument_24 ⟨by rw [hRc]; show _ + 0 ≤ _; omega, by rw [hRs]; show _ + 0 ≤ _; omega⟩) hh_2.1 (fun q _ h => h) (fun q h => h) (fun r_5 u_4 t_4 H_4 locs_4 ht_4 hvm_4 hr_5 hb_4 hz_4 hk_4 hS_4 => ?_)
  rw [ht_4] at hb_4
  obtain ⟨hb_4, hbF_4⟩ := hb_4
  obtain ⟨hb_41, hb_42, hb_43, hb_44, hb_45⟩ := hb_4
  have hh_4 : jSt (dC, dI) B base G0 G0 EX11_changeDocument s.heap 0 0 [(r0, 13, 4, .ref bo), (bo, 2, 1, .int pc), (bo, 2, 0, .ref pa), (r0, 13, 3, .ref ou), (r0, 13, 2, .ref js), (js, 6, 7, .int pv), (js, 6, 8, .int pu), (js, 6, 0, .ref wk), (js, 6, 1, .ref wi), (js, 6, 2, .ref wz), (js, 6, 4, .ref jkf), (js, 6, 5, .ref jks), (r0, 13, 1, .ref fm), (fm, 4, 1, .int fl), (r0, 13, 7, .ref op), (op, 1, 2, .int sz)] [(wk, 140, 1502, ca 1, fk), (wi, 141, 1502, ca 1, fi), (wz, 142, 1502, ca 1, fz), (jkf, 144, 1502, ca 1, fa), (jks, 145, 1502, ca 1, fs)] [([(2, 0), (2, 1)], jOl (dC, dI) G0 2 [bo, ou] s.heap), (jFy, jYb dC dI G0), (jFl, jLs dC dI ca G0 3 none), (jFdo, jDcc dC dI ca G0 none ph)] H_4 locs_4 := ((hh_2.call hb_41 hb_42 hb_43 hb_44 hS_4 rfl (L1 := [(r0, 13, 4, .ref bo), (bo, 2, 1, .int pc), (bo, 2, 0, .ref pa), (r0, 13, 3, .ref ou), (r0, 13, 2, .ref js), (js, 6, 7, .int pv), (js, 6, 8, .int pu), (js, 6, 0, .ref wk), (js, 6, 1, .ref wi), (js, 6, 2, .ref wz), (js, 6, 4, .ref jkf), (js, 6, 5, .ref jks), (r0, 13, 1, .ref fm), (fm, 4, 1, .int fl), (r0, 13, 7, .ref op), (op, 1, 2, .int sz)]) [0, 1, 2, 3, 4, 5, 6, 7, 8, 9, 10, 11, 12, 13, 14, 15] rfl rfl (M1 := [(wk, 140, 1502, ca 1, fk), (wi, 141, 1502, ca 1, fi), (wz, 142, 1502, ca 1, fz), (jkf, 144, 1502, ca 1, fa), (jks, 145, 1502, ca 1, fs)]) [0, 1, 2, 3, 4] rfl rfl (I1 := [([(2, 0), (2, 1)], jOl (dC, dI) G0 2 [bo, ou] s.heap), (jFy, jYb dC dI G0), (jFl, jLs dC dI ca G0 3 none), (jFdo, jDcc dC dI ca G0 none ph)]) [0, 1, 2, 3] rfl rfl).more hb_45)
  clear hh_2 ht_4 hvm_4 hz_4 hk_4 hS_4 hb_41 hb_42 hb_43 hb_44 hb_45
  obtain ⟨hr_5_0, hr_5_1, hr_5_2⟩ := hr_5
  have hr_5_2o := jOr.of hr_5_2
  clear hr_5_2
  have hr_5_2 := hr_5_2o
  clear hr_5_2o
  refine j_ldcSw hx hb hown rstr354 dX11_changeDocument_27 ?_
  have hsz_6 := hh_4.2.2.2.2.2.1
  have htt_6 := hh_4.2.2.2.2.2.2.1
  refine W.room (fun hrc_6 hrs_6 => ?_)
  refine va_calli (A0 := jA base) (H0 := s.heap) (va_runV (As := [.int r_5, .ref str354]) (rest := []) ⟨hx, hb, hml, hown, hts⟩ (uX4_memberQ l dC dI ca base B hB hAp hB6 hB140 hB141 hB142 hB143 hB144 hB145 hB146 G0 H_4 js r_5 str354 7 pv wk wi wz jks fk fi fz fs) (cwV 2 hts (jgV (jWr_23 _ (List.mem_of_getElem? (i := 10) rfl)) (jWr_23 _ (List.mem_of_getElem? (i := 11) rfl)) (jWr_23 _ (List.mem_of_getElem? (i := 12) rfl)) (jWr_1 _ (List.mem_of_getElem? (i := 22) rfl)) (jWr_23 _ (List.mem_of_getElem? (i := 13) rfl))) rfl rfl rfl (by decide +kernel) ⟨by rw [← hR]; exact Nat.le_of_ble_eq_true rfl, by rw [← hR]; exact Nat.le_of_ble_eq_true rfl⟩) ⟨fun a U g mk q => by obtain ⟨q0, q1, q2, qK, q10, q11, q12, q13, q14, q15, q16, q17, q18⟩ := q; exact ⟨q0, q1, q2, jG.calling g mk a qK, (q10.moved (Vm.Alike.refl U.vm)), q11, q12, q13, q14, q15, q16, q17, q18⟩, hh_4.recv (C := RX4) (T := TX4) (N := 12) hB6 rfl (by decide) hg_js hK, fun U hU hW => ⟨rfl, hU, hh_4.2.1, hG.step hW hU hh_4.1, (hstr354.moved hW.alike).kept hh_4.1.2.1, hg_js, hg_wk, hg_wi, hg_wz, hg_jks, (hh_4.2.2.1.sub (L1 := [(js, 6, 7, .int pv), (js, 6, 0, .ref wk), (js, 6, 1, .ref wi), (js, 6, 2, .ref wz), (js, 6, 5, .ref jks)]) [5, 7, 8, 9, 11] rfl), (hh_4.2.2.2.2.2.2.2.1.sub (L1 := [(wk, 140, 1502, ca 1, fk), (wi, 141, 1502, ca 1, fi), (wz, 142, 1502, ca 1, fz), (jks, 145, 1502, ca 1, fs)]) [0, 1, 2, 4] rfl), ⟨(by first | omega | rfl | assumption | fail), (by first | omega | rfl | assumption | fail), (by first | omega | rfl | assumption | fail)⟩⟩⟩ rfl rfl hl.1 rfl (lv_room (Nat.le_of_ble_eq_true rfl)) dX11_changeDocument_30 ⟨by rw [hRc]; show _ + 0 ≤ _; omega, by rw [hRs]; show _ + 0 ≤ _; omega⟩) hh_4.1 (fun q _ h => h) (fun q h => h) (fun r_7 u_6 t_6 H_6 locs_6 ht_6 hvm_6 hr_7 hb_6 hz_6 hk_6 hS_6 => ?_)
  rw [ht_6] at hb_6
  obtain ⟨hb_6, hbF_6⟩ := hb_6
  obtain ⟨hb_61, hb_62, hb_63, hb_64, hb_65⟩ := hb_6
  have hh_6 : jSt (dC, dI) B base G0 G0 EX11_changeDocument s.heap 0 0 [(r0, 13, 4, .ref bo), (bo, 2, 1, .int pc), (bo, 2, 0, .ref pa), (r0, 13, 3, .ref ou), (r0, 13, 2, .ref js), (js, 6, 7, .int pv), (js, 6, 8, .int pu), (js, 6, 0, .ref wk), (js, 6, 1, .ref wi), (js, 6, 2, .ref wz), (js, 6, 4, .ref jkf), (js, 6, 5, .ref jks), (r0, 13, 1, .ref fm), (fm, 4, 1, .int fl), (r0, 13, 7, .ref op), (op, 1, 2, .int sz)] [(wk, 140, 1502, ca 1, fk), (wi, 141, 1502, ca 1, fi), (wz, 142, 1502, ca 1, fz), (jkf, 144, 1502, ca 1, fa), (jks, 145, 1502, ca 1, fs)] [([(2, 0), (2, 1)], jOl (dC, dI) G0 2 [bo, ou] s.heap), (jFy, jYb dC dI G0), (jFl, jLs dC dI ca G0 3 none), (jFdo, jDcc dC dI ca G0 none ph)] H_6 locs_6 := ((hh_4.call hb_61 hb_62 hb_63 hb_64 hS_6 rfl (L1 := [(r0, 13, 4, .ref bo), (bo, 2, 1, .int pc), (bo, 2, 0, .ref pa), (r0, 13, 3, .ref ou), (r0, 13, 2, .ref js), (js, 6, 7, .int pv), (js, 6, 8, .int pu), (js, 6, 0, .ref wk), (js, 6, 1, .ref wi), (js, 6, 2, .ref wz), (js, 6, 4, .ref jkf), (js, 6, 5, .ref jks), (r0, 13, 1, .ref fm), (fm, 4, 1, .int fl), (r0, 13, 7, .ref op), (op, 1, 2, .int sz)]) [0, 1, 2, 3, 4, 5, 6, 7, 8, 9, 10, 11, 12, 13, 14, 15] rfl rfl (M1 := [(wk, 140, 1502, ca 1, fk), (wi, 141, 1502, ca 1, fi), (wz, 142, 1502, ca 1, fz), (jkf, 144, 1502, ca 1, fa), (jks, 145, 1502, ca 1, fs)]) [0, 1, 2, 3, 4] rfl rfl (I1 := [([(2, 0), (2, 1)], jOl (dC, dI) G0 2 [bo, ou] s.heap), (jFy, jYb dC dI G0), (jFl, jLs dC dI ca G0 3 none), (jFdo, jDcc dC dI ca G0 none ph)]) [0, 1, 2, 3] rfl rfl).more hb_65)
  clear hh_4 ht_6 hvm_6 hz_6 hk_6 hS_6 hb_61 hb_62 hb_63 hb_64 hb_65
  obtain ⟨hr_7_0, hr_7_1, hr_7_2⟩ := hr_7
  have hr_7_2o := jOr.of hr_7_2
  clear hr_7_2
  have hr_7_2 := hr_7_2o
  clear hr_7_2o
  refine lv_istore_n (lv' := [(2, .int r_7), (1, .int r_3), (0, .ref r0)]) hx hb dX11_changeDocument_33 rfl hl (by decide) rfl (fun ls hl => ?_)
  refine lv_aload_n hx hb dX11_changeDocument_34 rfl (lv_at hl 2 rfl) ?_
  refine j7_read hx hb hown hK (C := RX11) (T := TX11) (N := 19) rfl hly_13_2 hlk_28 (hh_6.at 4 rfl) dX11_changeDocument_35 ?_
  refine lv_iload_n hx hb dX11_changeDocument_38 rfl (lv_at hl 1 rfl) ?_
  refine j_ldcSw hx hb hown rstr382 dX11_changeDocument_39 ?_
  have hsz_8 := hh_6.2.2.2.2.2.1
  have htt_8 := hh_6.2.2.2.2.2.2.1
  refine W.room (fun hrc_8 hrs_8 => ?_)
  refine va_calli (A0 := jA base) (H0 := s.heap) (va_runV (As := [.int r_3, .ref str382]) (rest := []) ⟨hx, hb, hml, hown, hts⟩ (uX4_memberQ l dC dI ca base B hB hAp hB6 hB140 hB141 hB142 hB143 hB144 hB145 hB146 G0 H_6 js r_3 str382 14 pv wk wi wz jks fk fi fz fs) (cwV 2 hts (jgV (jWr_23 _ (List.mem_of_getElem? (i := 10) rfl)) (jWr_23 _ (List.mem_of_getElem? (i := 11) rfl)) (jWr_23 _ (List.mem_of_getElem? (i := 12) rfl)) (jWr_1 _ (List.mem_of_getElem? (i := 22) rfl)) (jWr_23 _ (List.mem_of_getElem? (i := 13) rfl))) rfl rfl rfl (by decide +kernel) ⟨by rw [← hR]; exact Nat.le_of_ble_eq_true rfl, by rw [← hR]; exact Nat.le_of_ble_eq_true rfl⟩) ⟨fun a U g mk q => by obtain ⟨q0, q1, q2, qK, q10, q11, q12, q13, q14, q15, q16, q17, q18⟩ := q; exact ⟨q0, q1, q2, jG.calling g mk a qK, (q10.moved (Vm.Alike.refl U.vm)), q11, q12, q13, q14, q15, q16, q17, q18⟩, hh_6.recv (C := RX4) (T := TX4) (N := 12) hB6 rfl (by decide) hg_js hK, fun U hU hW => ⟨rfl, hU, hh_6.2.1, hG.step hW hU hh_6.1, (hstr382.moved hW.alike).kept hh_6.1.2.1, hg_js, hg_wk, hg_wi, hg_wz, hg_jks, (hh_6.2.2.1.sub (L1 := [(js, 6, 7, .int pv), (js, 6, 0, .ref wk), (js, 6, 1, .ref wi), (js, 6, 2, .ref wz), (js, 6, 5, .ref jks)]) [5, 7, 8, 9, 11] rfl), (hh_6.2.2.2.2.2.2.2.1.sub (L1 := [(wk, 140, 1502, ca 1, fk), (wi, 141, 1502, ca 1, fi), (wz, 142, 1502, ca 1, fz), (jks, 145, 1502, ca 1, fs)]) [0, 1, 2, 4] rfl), ⟨(by first | omega | rfl | assumption | fail), (by first | omega | rfl | assumption | fail), (by first | omega | rfl | assumption | fail)⟩⟩⟩ rfl rfl hl.1 rfl (lv_room (Nat.le_of_ble_eq_true rfl)) dX11_changeDocument_42 ⟨by rw [hRc]; show _ + 0 ≤ _; omega, by rw [hRs]; show _ + 0 ≤ _; omega⟩) hh_6.1 (fun q _ h => h) (fun q h => h) (fun r_9 u_8 t_8 H_8 locs_8 ht_8 hvm_8 hr_9 hb_8 hz_8 hk_8 hS_8 => ?_)
  rw [ht_8] at hb_8
  obtain ⟨hb_8, hbF_8⟩ := hb_8
  obtain ⟨hb_81, hb_82, hb_83, hb_84, hb_85⟩ := hb_8
  have hh_8 : jSt (dC, dI) B base G0 G0 EX11_changeDocument s.heap 0 0 [(r0, 13, 4, .ref bo), (bo, 2, 1, .int pc), (bo, 2, 0, .ref pa), (r0, 13, 3, .ref ou), (r0, 13, 2, .ref js), (js, 6, 7, .int pv), (js, 6, 8, .int pu), (js, 6, 0, .ref wk), (js, 6, 1, .ref wi), (js, 6, 2, .ref wz), (js, 6, 4, .ref jkf), (js, 6, 5, .ref jks), (r0, 13, 1, .ref fm), (fm, 4, 1, .int fl), (r0, 13, 7, .ref op), (op, 1, 2, .int sz)] [(wk, 140, 1502, ca 1, fk), (wi, 141, 1502, ca 1, fi), (wz, 142, 1502, ca 1, fz), (jkf, 144, 1502, ca 1, fa), (jks, 145, 1502, ca 1, fs)] [([(2, 0), (2, 1)], jOl (dC, dI) G0 2 [bo, ou] s.heap), (jFy, jYb dC dI G0), (jFl, jLs dC dI ca G0 3 none), (jFdo, jDcc dC dI ca G0 none ph)] H_8 locs_8 := ((hh_6.call hb_81 hb_82 hb_83 hb_84 hS_8 rfl (L1 := [(r0, 13, 4, .ref bo), (bo, 2, 1, .int pc), (bo, 2, 0, .ref pa), (r0, 13, 3, .ref ou), (r0, 13, 2, .ref js), (js, 6, 7, .int pv), (js, 6, 8, .int pu), (js, 6, 0, .ref wk), (js, 6, 1, .ref wi), (js, 6, 2, .ref wz), (js, 6, 4, .ref jkf), (js, 6, 5, .ref jks), (r0, 13, 1, .ref fm), (fm, 4, 1, .int fl), (r0, 13, 7, .ref op), (op, 1, 2, .int sz)]) [0, 1, 2, 3, 4, 5, 6, 7, 8, 9, 10, 11, 12, 13, 14, 15] rfl rfl (M1 := [(wk, 140, 1502, ca 1, fk), (wi, 141, 1502, ca 1, fi), (wz, 142, 1502, ca 1, fz), (jkf, 144, 1502, ca 1, fa), (jks, 145, 1502, ca 1, fs)]) [0, 1, 2, 3, 4] rfl rfl (I1 := [([(2, 0), (2, 1)], jOl (dC, dI) G0 2 [bo, ou] s.heap), (jFy, jYb dC dI G0), (jFl, jLs dC dI ca G0 3 none), (jFdo, jDcc dC dI ca G0 none ph)]) [0, 1, 2, 3] rfl rfl).more hb_85)
  clear hh_6 ht_8 hvm_8 hz_8 hk_8 hS_8 hb_81 hb_82 hb_83 hb_84 hb_85
  obtain ⟨hr_9_0, hr_9_1, hr_9_2⟩ := hr_9
  have hr_9_2o := jOr.of hr_9_2
  clear hr_9_2
  have hr_9_2 := hr_9_2o
  clear hr_9_2o
  refine lv_istore_n (lv' := [(3, .int r_9), (2, .int r_7), (1, .int r_3), (0, .ref r0)]) hx hb dX11_changeDocument_45 rfl hl (by decide) rfl (fun ls hl => ?_)
  refine lv_aload_n hx hb dX11_changeDocument_46 rfl (lv_at hl 3 rfl) ?_
  have hsz_10 := hh_8.2.2.2.2.2.1
  have htt_10 := hh_8.2.2.2.2.2.2.1
  refine W.room (fun hrc_10 hrs_10 => ?_)
  refine j_callx (A0 := jA base) (H0 := s.heap) (va_runV (As := []) (rest := []) ⟨hx, hb, hml, hown, hts⟩ (uX11_addressedQ l dC dI ca base B hB hAp hB1 hB3 hB6 hB13 hB101 hB140 hB141 hB142 hB143 hB144 hB145 hB146 hB221 G0 H_8 r0 js pv pu wk wi wz jks fk fi fz fs) (cwV 0 hts (jgV (jWr_27 _ (List.mem_of_getElem? (i := 16) rfl)) (jWr_27 _ (List.mem_of_getElem? (i := 17) rfl)) (jWr_27 _ (List.mem_of_getElem? (i := 18) rfl)) (jWr_1 _ (List.mem_of_getElem? (i := 2) rfl)) (jWr_27 _ (List.mem_of_getElem? (i := 19) rfl))) rfl rfl rfl (by decide +kernel) ⟨by rw [← hR]; exact Nat.le_of_ble_eq_true rfl, by rw [← hR]; exact Nat.le_of_ble_eq_true rfl⟩) ⟨fun a U g mk q => by obtain ⟨q0, q1, q2, qK, q10, q11, q12, q13, q14, q15, q16, q17, q18, q19, q20⟩ := q; exact ⟨q0, q1, q2, jG.calling g mk a qK, (jK7.calling g mk a q10), q11, q12, q13, q14, q15, q16, q17, q18, q19, q20⟩, hh_8.recv (C := RX11) (T := TX11) (N := 19) hB13 rfl (by decide) hg_r0 hK, fun U hU hW => ⟨rfl, hU, hh_8.2.1, hG.step hW hU hh_8.1, (hK7.step hW hU hh_8.1), hg_r0, hg_js, hg_wk, hg_wi, hg_wz, hg_jks, (hh_8.2.2.1.sub (L1 := [(r0, 13, 2, .ref js), (js, 6, 7, .int pv), (js, 6, 8, .int pu), (js, 6, 0, .ref wk), (js, 6, 1, .ref wi), (js, 6, 2, .ref wz), (js, 6, 5, .ref jks)]) [4, 5, 6, 7, 8, 9, 11] rfl), (hh_8.2.2.2.2.2.2.2.1.sub (L1 := [(wk, 140, 1502, ca 1, fk), (wi, 141, 1502, ca 1, fi), (wz, 142, 1502, ca 1, fz), (jks, 145, 1502, ca 1, fs)]) [0, 1, 2, 4] rfl), (hh_8.2.2.2.2.2.2.2.2.sub (L1 := [(jFl, jLs dC dI ca G0 3 none)]) [2] rfl), ⟨(by first | omega | rfl | assumption | fail), (by first | omega | rfl | assumption | fail), (by first | omega | rfl | assumption | fail), (by first | omega | rfl | assumption | fail), (by first | assumption | fail | omega), (by first | assumption | fail | omega)⟩⟩⟩ rfl rfl hl.1 rfl (lv_room (Nat.le_of_ble_eq_true rfl)) dX11_changeDocument_47 ⟨by rw [hRc]; show _ + 0 ≤ _; omega, by rw [hRs]; show _ + 0 ≤ _; omega⟩) hh_8.1 (fun q _ h => h) (fun q h => h) (fun r_11 u_10 t_10 H_10 locs_10 ht_10 hvm_10 hr_11 hb_10 hz_10 hk_10 hS_10 => ?_)
  rw [ht_10] at hb_10
  obtain ⟨hb_10, hbE_10⟩ := hb_10
  obtain ⟨hb_101, hb_102, hb_103, hb_104, hb_105⟩ := hb_10
  have hh_10 : jSt (dC, dI) B base G0 G0 EX11_changeDocument s.heap 0 0 [(r0, 13, 4, .ref bo), (bo, 2, 1, .int pc), (bo, 2, 0, .ref pa), (r0, 13, 3, .ref ou), (r0, 13, 2, .ref js), (js, 6, 7, .int pv), (js, 6, 8, .int pu), (js, 6, 0, .ref wk), (js, 6, 1, .ref wi), (js, 6, 2, .ref wz), (js, 6, 4, .ref jkf), (js, 6, 5, .ref jks), (r0, 13, 1, .ref fm), (fm, 4, 1, .int fl), (r0, 13, 7, .ref op), (op, 1, 2, .int sz)] [(wk, 140, 1502, ca 1, fk), (wi, 141, 1502, ca 1, fi), (wz, 142, 1502, ca 1, fz), (jkf, 144, 1502, ca 1, fa), (jks, 145, 1502, ca 1, fs)] [(jFl, jLs dC dI ca G0 3 none), ([(2, 0), (2, 1)], jOl (dC, dI) G0 2 [bo, ou] s.heap), (jFy, jYb dC dI G0), (jFdo, jDcc dC dI ca G0 none ph)] H_10 locs_10 := (((hh_8.call hb_101 hb_102 hb_103 hb_104 hS_10 rfl (L1 := [(r0, 13, 4, .ref bo), (bo, 2, 1, .int pc), (bo, 2, 0, .ref pa), (r0, 13, 3, .ref ou), (r0, 13, 2, .ref js), (js, 6, 7, .int pv), (js, 6, 8, .int pu), (js, 6, 0, .ref wk), (js, 6, 1, .ref wi), (js, 6, 2, .ref wz), (js, 6, 4, .ref jkf), (js, 6, 5, .ref jks), (r0, 13, 1, .ref fm), (fm, 4, 1, .int fl), (r0, 13, 7, .ref op), (op, 1, 2, .int sz)]) [0, 1, 2, 3, 4, 5, 6, 7, 8, 9, 10, 11, 12, 13, 14, 15] rfl rfl (M1 := [(wk, 140, 1502, ca 1, fk), (wi, 141, 1502, ca 1, fi), (wz, 142, 1502, ca 1, fz), (jkf, 144, 1502, ca 1, fa), (jks, 145, 1502, ca 1, fs)]) [0, 1, 2, 3, 4] rfl rfl (I1 := [([(2, 0), (2, 1)], jOl (dC, dI) G0 2 [bo, ou] s.heap), (jFy, jYb dC dI G0), (jFdo, jDcc dC dI ca G0 none ph)]) [0, 1, 3] rfl rfl).more hb_105)).addIs hbE_10
  clear hh_8 ht_10 hvm_10 hz_10 hk_10 hS_10 hb_101 hb_102 hb_103 hb_104 hb_105
  clear  hbE_10
  obtain ⟨hr_11, hr_11p⟩ := hr_11
  rcases hr_11 with rfl | ⟨ret_12, rfl, hg_ret_12⟩
  · skip
    refine j7_nst (lv' := [(4, .null), (3, .int r_9), (2, .int r_7), (1, .int r_3), (0, .ref r0)]) hx hb dX11_changeDocument_50 hl (by decide) rfl (fun ls hl => ?_)
    refine j7_nld hx hb dX11_changeDocument_52 (lv_at hl 0 rfl) ?_
    refine lv_ifnullN (tgt := 122) hx hb dX11_changeDocument_54 (by decide) ?_
    have hsz_13 := hh_10.2.2.2.2.2.1
    have htt_13 := hh_10.2.2.2.2.2.2.1
    refine W.room (fun hrc_13 hrs_13 => ?_)
    refine W.widen (k := LC - s.heap.size) (n := LS - jTot s.heap) (by omega) (by omega) ?_
    rw [hQ]
    exact W.vret hx hb hr (fun t ht hW => ⟨⟨(pc, pa, n_pa, ph, G0), rfl, by (try dsimp only); exact ⟨(by first | omega | rfl | assumption | fail), (by first | omega | rfl | assumption | fail), (by first | omega | rfl | assumption | fail), (by first | omega | rfl | assumption | fail), (by first | assumption | fail | omega), (by first | omega | rfl | assumption | fail)⟩, ⟨hh_10.ra (by first | omega | (simp only; omega)) (by first | omega | (simp only; omega)) (M1 := [(bo, 2, 1, .int pc), (bo, 2, 0, .ref pa)]) [1, 2] rfl ht, hg_pa, jNk.rf, by rw [ht]; exact hh_10.iv 1 rfl, by rw [ht]; exact hh_10.2.2.2.2.2.2.2.2.sub (L1 := [(jFy, jYb dC dI G0), (jFl, jLs dC dI ca G0 3 none), (jFdo, jDcc dC dI ca G0 none ph)]) [2, 0, 3] rfl⟩⟩, by rw [ht]; try exact hh_10.1.1, fun q h9 hq => by rw [ht]; try exact hh_10.1.2.1 q h9 hq⟩) hh_10.1.2.2 dX11_changeDocument_122
  · skip
    refine lv_astore (lv' := [(4, .ref ret_12), (3, .int r_9), (2, .int r_7), (1, .int r_3), (0, .ref r0)]) hx hb dX11_changeDocument_50 hl (by decide) rfl (fun ls hl => ?_)
    refine lv_aload hx hb dX11_changeDocument_52 (lv_at hl 0 rfl) ?_
    refine lv_ifnull hx hb dX11_changeDocument_54 ?_
    obtain ⟨ux, ux0, ux1, ux2, ux3⟩ := jNnl hr_11p
    refine lv_aload_n hx hb dX11_changeDocument_57 rfl (lv_at hl 4 rfl) ?_
    refine j7_read hx hb hown hK (C := RX11) (T := TX11) (N := 19) rfl hly_13_2 hlk_28 (hh_10.at 4 rfl) dX11_changeDocument_58 ?_
    refine lv_iload_n hx hb dX11_changeDocument_61 rfl (lv_at hl 2 rfl) ?_
    have hsz_14 := hh_10.2.2.2.2.2.1
    have htt_14 := hh_10.2.2.2.2.2.2.1
    refine W.room (fun hrc_14 hrs_14 => ?_)
    refine va_calli (A0 := jA base) (H0 := s.heap) (va_runV (As := [.int r_7]) (rest := []) ⟨hx, hb, hml, hown, hts⟩ (uX4_kindOfW l dC dI ca base B hB hAp hB6 hB140 G0 H_10 js r_7 pv wk wi wz fk fi fz) (cwV 1 hts (jgV (jWr_27 _ (List.mem_of_getElem? (i := 5) rfl)) (jWr_23 _ (List.mem_of_getElem? (i := 15) rfl)) (jWr_23 _ (List.mem_of_getElem? (i := 16) rfl)) (jWr_1 _ (List.mem_of_getElem? (i := 22) rfl)) (jWr_23 _ (List.mem_of_getElem? (i := 17) rfl))) rfl rfl rfl (by decide +kernel) ⟨by rw [← hR]; exact Nat.le_of_ble_eq_true rfl, by rw [← hR]; exact Nat.le_of_ble_eq_true rfl⟩) ⟨fun a U g mk q => by obtain ⟨q0, q1, q2, qK, q10, q11, q12, q13, q14, q15, q16⟩ := q; exact ⟨q0, q1, q2, jG.calling g mk a qK, q10, q11, q12, q13, q14, q15, q16⟩, hh_10.recv (C := RX4) (T := TX4) (N := 12) hB6 rfl (by decide) hg_js hK, fun U hU hW => ⟨rfl, hU, hh_10.2.1, hG.step hW hU hh_10.1, hg_js, hg_wk, hg_wi, hg_wz, (hh_10.2.2.1.sub (L1 := [(js, 6, 7, .int pv), (js, 6, 0, .ref wk), (js, 6, 1, .ref wi), (js, 6, 2, .ref wz)]) [5, 7, 8, 9] rfl), (hh_10.2.2.2.2.2.2.2.1.sub (L1 := [(wk, 140, 1502, ca 1, fk), (wi, 141, 1502, ca 1, fi), (wz, 142, 1502, ca 1, fz)]) [0, 1, 2] rfl), ⟨(by first | omega | rfl | assumption | fail), (by first | omega | rfl | assumption | fail)⟩⟩⟩ rfl rfl hl.1 rfl (lv_room (Nat.le_of_ble_eq_true rfl)) dX11_changeDocument_62 ⟨by rw [hRc]; show _ + 0 ≤ _; omega, by rw [hRs]; show _ + 0 ≤ _; omega⟩) hh_10.1 (fun q _ h => h) (fun q h => h) (fun r_15 u_14 t_14 H_14 locs_14 ht_14 hvm_14 hr_15 hb_14 hz_14 hk_14 hS_14 => ?_)
    rw [ht_14] at hb_14
    obtain ⟨hb_14, hbF_14⟩ := hb_14
    obtain ⟨hb_141, hb_142, hb_143, hb_144, hb_145⟩ := hb_14
    have hh_14 : jSt (dC, dI) B base G0 G0 EX11_changeDocument s.heap 0 0 [(r0, 13, 4, .ref bo), (bo, 2, 1, .int pc), (bo, 2, 0, .ref pa), (r0, 13, 3, .ref ou), (r0, 13, 2, .ref js), (js, 6, 7, .int pv), (js, 6, 8, .int pu), (js, 6, 0, .ref wk), (js, 6, 1, .ref wi), (js, 6, 2, .ref wz), (js, 6, 4, .ref jkf), (js, 6, 5, .ref jks), (r0, 13, 1, .ref fm), (fm, 4, 1, .int fl), (r0, 13, 7, .ref op), (op, 1, 2, .int sz)] [(wk, 140, 1502, ca 1, fk), (wi, 141, 1502, ca 1, fi), (wz, 142, 1502, ca 1, fz), (jkf, 144, 1502, ca 1, fa), (jks, 145, 1502, ca 1, fs)] [(jFl, jLs dC dI ca G0 3 none), ([(2, 0), (2, 1)], jOl (dC, dI) G0 2 [bo, ou] s.heap), (jFy, jYb dC dI G0), (jFdo, jDcc dC dI ca G0 none ph)] H_14 locs_14 := ((hh_10.call hb_141 hb_142 hb_143 hb_144 hS_14 rfl (L1 := [(r0, 13, 4, .ref bo), (bo, 2, 1, .int pc), (bo, 2, 0, .ref pa), (r0, 13, 3, .ref ou), (r0, 13, 2, .ref js), (js, 6, 7, .int pv), (js, 6, 8, .int pu), (js, 6, 0, .ref wk), (js, 6, 1, .ref wi), (js, 6, 2, .ref wz), (js, 6, 4, .ref jkf), (js, 6, 5, .ref jks), (r0, 13, 1, .ref fm), (fm, 4, 1, .int fl), (r0, 13, 7, .ref op), (op, 1, 2, .int sz)]) [0, 1, 2, 3, 4, 5, 6, 7, 8, 9, 10, 11, 12, 13, 14, 15] rfl rfl (M1 := [(wk, 140, 1502, ca 1, fk), (wi, 141, 1502, ca 1, fi), (wz, 142, 1502, ca 1, fz), (jkf, 144, 1502, ca 1, fa), (jks, 145, 1502, ca 1, fs)]) [0, 1, 2, 3, 4] rfl rfl (I1 := [(jFl, jLs dC dI ca G0 3 none), ([(2, 0), (2, 1)], jOl (dC, dI) G0 2 [bo, ou] s.heap), (jFy, jYb dC dI G0), (jFdo, jDcc dC dI ca G0 none ph)]) [0, 1, 2, 3] rfl rfl).more hb_145)
    clear hh_10 ht_14 hvm_14 hz_14 hk_14 hS_14 hb_141 hb_142 hb_143 hb_144 hb_145
    have hr_15o := jOr.of hr_15
    clear hr_15
    have hr_15 := hr_15o
    clear hr_15o
    refine lv_iconst (v := 4) hx hb dX11_changeDocument_65 (by decide) ?_
    refine lv_icmp_ne (tgt := 122) hx hb dX11_changeDocument_66 (by decide) (fun c_16 => ?_) (fun c_16 => ?_)
    · skip
      have c_16' : r_15.toInt ≠ 4 := jb_ne (rfl) ((by decide)) c_16
      try clear hr_15
      have hsz_17 := hh_14.2.2.2.2.2.1
      have htt_17 := hh_14.2.2.2.2.2.2.1
      refine W.room (fun hrc_17 hrs_17 => ?_)
      refine W.widen (k := LC - s.heap.size) (n := LS - jTot s.heap) (by omega) (by omega) ?_
      rw [hQ]
      exact W.vret hx hb hr (fun t ht hW => ⟨⟨(pc, pa, n_pa, ph, G0), rfl, by (try dsimp only); exact ⟨(by first | omega | rfl | assumption | fail), (by first | omega | rfl | assumption | fail), (by first | omega | rfl | assumption | fail), (by first | omega | rfl | assumption | fail), (by first | assumption | fail | omega), (by first | omega | rfl | assumption | fail)⟩, ⟨hh_14.ra (by first | omega | (simp only; omega)) (by first | omega | (simp only; omega)) (M1 := [(bo, 2, 1, .int pc), (bo, 2, 0, .ref pa)]) [1, 2] rfl ht, hg_pa, jNk.rf, by rw [ht]; exact hh_14.iv 1 rfl, by rw [ht]; exact hh_14.2.2.2.2.2.2.2.2.sub (L1 := [(jFy, jYb dC dI G0), (jFl, jLs dC dI ca G0 3 none), (jFdo, jDcc dC dI ca G0 none ph)]) [2, 0, 3] rfl⟩⟩, by rw [ht]; try exact hh_14.1.1, fun q h9 hq => by rw [ht]; try exact hh_14.1.2.1 q h9 hq⟩) hh_14.1.2.2 dX11_changeDocument_122
    · skip
      have c_16' : r_15.toInt = 4 := jb_ne_n (rfl) ((by decide)) c_16
      first | (have hr_15q := hr_15.resolve_left (by omega); clear hr_15) | (have hr_15q := hr_15.resolve_right (by omega); clear hr_15) | try clear hr_15
      first | (have hr_7_2q := hr_7_2.resolve_left (by omega); clear hr_7_2) | (have hr_7_2q := hr_7_2.resolve_right (by omega); clear hr_7_2) | skip
      first | (have hr_5_2q := hr_5_2.resolve_left (by omega); clear hr_5_2) | (have hr_5_2q := hr_5_2.resolve_right (by omega); clear hr_5_2) | try clear hr_5_2
      first | (have hr_3_2q := hr_3_2.resolve_left (by omega); clear hr_3_2) | (have hr_3_2q := hr_3_2.resolve_right (by omega); clear hr_3_2) | skip
      refine lv_aload_n hx hb dX11_changeDocument_69 rfl (lv_at hl 4 rfl) ?_
      refine j7_read hx hb hown hK (C := RX11) (T := TX11) (N := 19) rfl hly_13_2 hlk_28 (hh_14.at 4 rfl) dX11_changeDocument_70 ?_
      refine lv_iload_n hx hb dX11_changeDocument_73 rfl (lv_at hl 2 rfl) ?_
      have hsz_18 := hh_14.2.2.2.2.2.1
      have htt_18 := hh_14.2.2.2.2.2.2.1
      refine W.room (fun hrc_18 hrs_18 => ?_)
      refine va_calli (A0 := jA base) (H0 := s.heap) (va_runV (As := [.int r_7]) (rest := []) ⟨hx, hb, hml, hown, hts⟩ (uX4_valueOf l dC dI ca base B hB hAp hB6 hB141 G0 H_14 js r_7) (cwV 1 hts (jgV (jWr_29 _ (List.mem_of_getElem? (i := 0) rfl)) (jWr_24 _ (List.mem_of_getElem? (i := 12) rfl)) (jWr_24 _ (List.mem_of_getElem? (i := 13) rfl)) (jWr_1 _ (List.mem_of_getElem? (i := 22) rfl)) (jWr_24 _ (List.mem_of_getElem? (i := 14) rfl))) rfl rfl rfl (by decide +kernel) ⟨by rw [← hR]; exact Nat.le_of_ble_eq_true rfl, by rw [← hR]; exact Nat.le_of_ble_eq_true rfl⟩) ⟨fun a U g mk q => by obtain ⟨q0, q1, q2, qK, q10, q11, q12⟩ := q; exact ⟨q0, q1, q2, jG.calling g mk a qK, q10, q11, q12⟩, hh_14.recv (C := RX4) (T := TX4) (N := 12) hB6 rfl (by decide) hg_js hK, fun U hU hW => ⟨rfl, hU, hh_14.2.1, hG.step hW hU hh_14.1, hg_js, jP.nil, trivial⟩⟩ rfl rfl hl.1 rfl (lv_room (Nat.le_of_ble_eq_true rfl)) dX11_changeDocument_74 ⟨by rw [hRc]; show _ + 0 ≤ _; omega, by rw [hRs]; show _ + 0 ≤ _; omega⟩) hh_14.1 (fun q _ h => h) (fun q h => h) (fun r_19 u_18 t_18 H_18 locs_18 ht_18 hvm_18 hr_19 hb_18 hz_18 hk_18 hS_18 => ?_)
      rw [ht_18] at hb_18
      obtain ⟨hb_181, hb_182, hb_183, hb_184, hb_185⟩ := hb_18
      have hh_18 : jSt (dC, dI) B base G0 G0 EX11_changeDocument s.heap 0 0 [(r0, 13, 4, .ref bo), (bo, 2, 1, .int pc), (bo, 2, 0, .ref pa), (r0, 13, 3, .ref ou), (r0, 13, 2, .ref js), (js, 6, 7, .int pv), (js, 6, 8, .int pu), (js, 6, 0, .ref wk), (js, 6, 1, .ref wi), (js, 6, 2, .ref wz), (js, 6, 4, .ref jkf), (js, 6, 5, .ref jks), (r0, 13, 1, .ref fm), (fm, 4, 1, .int fl), (r0, 13, 7, .ref op), (op, 1, 2, .int sz)] [(wk, 140, 1502, ca 1, fk), (wi, 141, 1502, ca 1, fi), (wz, 142, 1502, ca 1, fz), (jkf, 144, 1502, ca 1, fa), (jks, 145, 1502, ca 1, fs)] [(jFl, jLs dC dI ca G0 3 none), ([(2, 0), (2, 1)], jOl (dC, dI) G0 2 [bo, ou] s.heap), (jFy, jYb dC dI G0), (jFdo, jDcc dC dI ca G0 none ph)] H_18 locs_18 := ((hh_14.call hb_181 hb_182 hb_183 hb_184 hS_18 rfl (L1 := [(r0, 13, 4, .ref bo), (bo, 2, 1, .int pc), (bo, 2, 0, .ref pa), (r0, 13, 3, .ref ou), (r0, 13, 2, .ref js), (js, 6, 7, .int pv), (js, 6, 8, .int pu), (js, 6, 0, .ref wk), (js, 6, 1, .ref wi), (js, 6, 2, .ref wz), (js, 6, 4, .ref jkf), (js, 6, 5, .ref jks), (r0, 13, 1, .ref fm), (fm, 4, 1, .int fl), (r0, 13, 7, .ref op), (op, 1, 2, .int sz)]) [0, 1, 2, 3, 4, 5, 6, 7, 8, 9, 10, 11, 12, 13, 14, 15] rfl rfl (M1 := [(wk, 140, 1502, ca 1, fk), (wi, 141, 1502, ca 1, fi), (wz, 142, 1502, ca 1, fz), (jkf, 144, 1502, ca 1, fa), (jks, 145, 1502, ca 1, fs)]) [0, 1, 2, 3, 4] rfl rfl (I1 := [(jFl, jLs dC dI ca G0 3 none), ([(2, 0), (2, 1)], jOl (dC, dI) G0 2 [bo, ou] s.heap), (jFy, jYb dC dI G0), (jFdo, jDcc dC dI ca G0 none ph)]) [0, 1, 2, 3] rfl rfl).more hb_185)
      clear hh_14 ht_18 hvm_18 hz_18 hk_18 hS_18 hb_181 hb_182 hb_183 hb_184 hb_185
      refine lv_aload hx hb dX11_changeDocument_77 (lv_at hl 0 rfl) ?_
      obtain ⟨v_20, hv_20, hh_21⟩ := hh_18.pin (C := RX1) (T := TX1) (N := 17) hB3 rfl (by decide) hg_ret_12 (i := 1) (by decide) rfl
      clear hh_18
      obtain ⟨version_22, rfl⟩ := hv_20
      refine j7_read hx hb hown hK (C := RX1) (T := TX1) (N := 17) rfl hly_3_1 hlk_162 (hh_21.at 0 rfl) dX11_changeDocument_79 ?_
      refine lv_icmp_le (tgt := 122) hx hb dX11_changeDocument_82 (by decide) (fun c_23 => ?_) (fun c_23 => ?_)
      · skip
        have c_23' : r_19.toInt ≤ version_22.toInt := jb_le (rfl) (rfl) c_23
        first | (have hr_7_2q := hr_7_2.resolve_left (by omega); clear hr_7_2) | (have hr_7_2q := hr_7_2.resolve_right (by omega); clear hr_7_2) | skip
        have hsz_24 := hh_21.2.2.2.2.2.1
        have htt_24 := hh_21.2.2.2.2.2.2.1
        refine W.room (fun hrc_24 hrs_24 => ?_)
        refine W.widen (k := LC - s.heap.size) (n := LS - jTot s.heap) (by omega) (by omega) ?_
        rw [hQ]
        exact W.vret hx hb hr (fun t ht hW => ⟨⟨(pc, pa, n_pa, ph, G0), rfl, by (try dsimp only); exact ⟨(by first | omega | rfl | assumption | fail), (by first | omega | rfl | assumption | fail), (by first | omega | rfl | assumption | fail), (by first | omega | rfl | assumption | fail), (by first | assumption | fail | omega), (by first | omega | rfl | assumption | fail)⟩, ⟨hh_21.ra (by first | omega | (simp only; omega)) (by first | omega | (simp only; omega)) (M1 := [(bo, 2, 1, .int pc), (bo, 2, 0, .ref pa)]) [2, 3] rfl ht, hg_pa, jNk.rf, by rw [ht]; exact hh_21.iv 1 rfl, by rw [ht]; exact hh_21.2.2.2.2.2.2.2.2.sub (L1 := [(jFy, jYb dC dI G0), (jFl, jLs dC dI ca G0 3 none), (jFdo, jDcc dC dI ca G0 none ph)]) [2, 0, 3] rfl⟩⟩, by rw [ht]; try exact hh_21.1.1, fun q h9 hq => by rw [ht]; try exact hh_21.1.2.1 q h9 hq⟩) hh_21.1.2.2 dX11_changeDocument_122
      · skip
        have c_23' : r_19.toInt > version_22.toInt := jb_le_n (rfl) (rfl) c_23
        first | (have hr_7_2q := hr_7_2.resolve_left (by omega); clear hr_7_2) | (have hr_7_2q := hr_7_2.resolve_right (by omega); clear hr_7_2) | skip
        refine lv_aload_n hx hb dX11_changeDocument_85 rfl (lv_at hl 4 rfl) ?_
        refine j7_read hx hb hown hK (C := RX11) (T := TX11) (N := 19) rfl hly_13_2 hlk_28 (hh_21.at 5 rfl) dX11_changeDocument_86 ?_
        refine lv_iload_n hx hb dX11_changeDocument_89 rfl (lv_at hl 1 rfl) ?_
        have hsz_25 := hh_21.2.2.2.2.2.1
        have htt_25 := hh_21.2.2.2.2.2.2.1
        refine W.room (fun hrc_25 hrs_25 => ?_)
        refine va_calli (A0 := jA base) (H0 := s.heap) (va_runV (As := [.int r_9]) (rest := []) ⟨hx, hb, hml, hown, hts⟩ (uX4_kindOfW l dC dI ca base B hB hAp hB6 hB140 G0 H_18 js r_9 pv wk wi wz fk fi fz) (cwV 1 hts (jgV (jWr_27 _ (List.mem_of_getElem? (i := 5) rfl)) (jWr_23 _ (List.mem_of_getElem? (i := 15) rfl)) (jWr_23 _ (List.mem_of_getElem? (i := 16) rfl)) (jWr_1 _ (List.mem_of_getElem? (i := 22) rfl)) (jWr_23 _ (List.mem_of_getElem? (i := 17) rfl))) rfl rfl rfl (by decide +kernel) ⟨by rw [← hR]; exact Nat.le_of_ble_eq_true rfl, by rw [← hR]; exact Nat.le_of_ble_eq_true rfl⟩) ⟨fun a U g mk q => by obtain ⟨q0, q1, q2, qK, q10, q11, q12, q13, q14, q15, q16⟩ := q; exact ⟨q0, q1, q2, jG.calling g mk a qK, q10, q11, q12, q13, q14, q15, q16⟩, hh_21.recv (C := RX4) (T := TX4) (N := 12) hB6 rfl (by decide) hg_js hK, fun U hU hW => ⟨rfl, hU, hh_21.2.1, hG.step hW hU hh_21.1, hg_js, hg_wk, hg_wi, hg_wz, (hh_21.2.2.1.sub (L1 := [(js, 6, 7, .int pv), (js, 6, 0, .ref wk), (js, 6, 1, .ref wi), (js, 6, 2, .ref wz)]) [6, 8, 9, 10] rfl), (hh_21.2.2.2.2.2.2.2.1.sub (L1 := [(wk, 140, 1502, ca 1, fk), (wi, 141, 1502, ca 1, fi), (wz, 142, 1502, ca 1, fz)]) [0, 1, 2] rfl), ⟨(by first | omega | rfl | assumption | fail), (by first | omega | rfl | assumption | fail)⟩⟩⟩ rfl rfl hl.1 rfl (lv_room (Nat.le_of_ble_eq_true rfl)) dX11_changeDocument_90 ⟨by rw [hRc]; show _ + 0 ≤ _; omega, by rw [hRs]; show _ + 0 ≤ _; omega⟩) hh_21.1 (fun q _ h => h) (fun q h => h) (fun r_26 u_25 t_25 H_25 locs_25 ht_25 hvm_25 hr_26 hb_25 hz_25 hk_25 hS_25 => ?_)
        rw [ht_25] at hb_25
        obtain ⟨hb_25, hbF_25⟩ := hb_25
        obtain ⟨hb_251, hb_252, hb_253, hb_254, hb_255⟩ := hb_25
        have hh_25 : jSt (dC, dI) B base G0 G0 EX11_changeDocument s.heap 0 0 [(ret_12, 3, 1, .int version_22), (r0, 13, 4, .ref bo), (bo, 2, 1, .int pc), (bo, 2, 0, .ref pa), (r0, 13, 3, .ref ou), (r0, 13, 2, .ref js), (js, 6, 7, .int pv), (js, 6, 8, .int pu), (js, 6, 0, .ref wk), (js, 6, 1, .ref wi), (js, 6, 2, .ref wz), (js, 6, 4, .ref jkf), (js, 6, 5, .ref jks), (r0, 13, 1, .ref fm), (fm, 4, 1, .int fl), (r0, 13, 7, .ref op), (op, 1, 2, .int sz)] [(wk, 140, 1502, ca 1, fk), (wi, 141, 1502, ca 1, fi), (wz, 142, 1502, ca 1, fz), (jkf, 144, 1502, ca 1, fa), (jks, 145, 1502, ca 1, fs)] [(jFl, jLs dC dI ca G0 3 none), ([(2, 0), (2, 1)], jOl (dC, dI) G0 2 [bo, ou] s.heap), (jFy, jYb dC dI G0), (jFdo, jDcc dC dI ca G0 none ph)] H_25 locs_25 := ((hh_21.call hb_251 hb_252 hb_253 hb_254 hS_25 rfl (L1 := [(ret_12, 3, 1, .int version_22), (r0, 13, 4, .ref bo), (bo, 2, 1, .int pc), (bo, 2, 0, .ref pa), (r0, 13, 3, .ref ou), (r0, 13, 2, .ref js), (js, 6, 7, .int pv), (js, 6, 8, .int pu), (js, 6, 0, .ref wk), (js, 6, 1, .ref wi), (js, 6, 2, .ref wz), (js, 6, 4, .ref jkf), (js, 6, 5, .ref jks), (r0, 13, 1, .ref fm), (fm, 4, 1, .int fl), (r0, 13, 7, .ref op), (op, 1, 2, .int sz)]) [0, 1, 2, 3, 4, 5, 6, 7, 8, 9, 10, 11, 12, 13, 14, 15, 16] rfl rfl (M1 := [(wk, 140, 1502, ca 1, fk), (wi, 141, 1502, ca 1, fi), (wz, 142, 1502, ca 1, fz), (jkf, 144, 1502, ca 1, fa), (jks, 145, 1502, ca 1, fs)]) [0, 1, 2, 3, 4] rfl rfl (I1 := [(jFl, jLs dC dI ca G0 3 none), ([(2, 0), (2, 1)], jOl (dC, dI) G0 2 [bo, ou] s.heap), (jFy, jYb dC dI G0), (jFdo, jDcc dC dI ca G0 none ph)]) [0, 1, 2, 3] rfl rfl).more hb_255)
        clear hh_21 ht_25 hvm_25 hz_25 hk_25 hS_25 hb_251 hb_252 hb_253 hb_254 hb_255
        have hr_26o := jOr.of hr_26
        clear hr_26
        have hr_26 := hr_26o
        clear hr_26o
        refine lv_iconst (v := 2) hx hb dX11_changeDocument_93 (by decide) ?_
        refine lv_icmp_ne (tgt := 122) hx hb dX11_changeDocument_94 (by decide) (fun c_27 => ?_) (fun c_27 => ?_)
        · skip
          have c_27' : r_26.toInt ≠ 2 := jb_ne (rfl) ((by decide)) c_27
          try clear hr_26
          have hsz_28 := hh_25.2.2.2.2.2.1
          have htt_28 := hh_25.2.2.2.2.2.2.1
          refine W.room (fun hrc_28 hrs_28 => ?_)
          refine W.widen (k := LC - s.heap.size) (n := LS - jTot s.heap) (by omega) (by omega) ?_
          rw [hQ]
          exact W.vret hx hb hr (fun t ht hW => ⟨⟨(pc, pa, n_pa, ph, G0), rfl, by (try dsimp only); exact ⟨(by first | omega | rfl | assumption | fail), (by first | omega | rfl | assumption | fail), (by first | omega | rfl | assumption | fail), (by first | omega | rfl | assumption | fail), (by first | assumption | fail | omega), (by first | omega | rfl | assumption | fail)⟩, ⟨hh_25.ra (by first | omega | (simp only; omega)) (by first | omega | (simp only; omega)) (M1 := [(bo, 2, 1, .int pc), (bo, 2, 0, .ref pa)]) [2, 3] rfl ht, hg_pa, jNk.rf, by rw [ht]; exact hh_25.iv 1 rfl, by rw [ht]; exact hh_25.2.2.2.2.2.2.2.2.sub (L1 := [(jFy, jYb dC dI G0), (jFl, jLs dC dI ca G0 3 none), (jFdo, jDcc dC dI ca G0 none ph)]) [2, 0, 3] rfl⟩⟩, by rw [ht]; try exact hh_25.1.1, fun q h9 hq => by rw [ht]; try exact hh_25.1.2.1 q h9 hq⟩) hh_25.1.2.2 dX11_changeDocument_122
        · skip
          have c_27' : r_26.toInt = 2 := jb_ne_n (rfl) ((by decide)) c_27
          first | (have hr_26q := hr_26.resolve_left (by omega); clear hr_26) | (have hr_26q := hr_26.resolve_right (by omega); clear hr_26) | try clear hr_26
          first | (have hr_9_2q := hr_9_2.resolve_left (by omega); clear hr_9_2) | (have hr_9_2q := hr_9_2.resolve_right (by omega); clear hr_9_2) | skip
          first | (have hr_5_2q := hr_5_2.resolve_left (by omega); clear hr_5_2) | (have hr_5_2q := hr_5_2.resolve_right (by omega); clear hr_5_2) | try clear hr_5_2
          first | (have hr_3_2q := hr_3_2.resolve_left (by omega); clear hr_3_2) | (have hr_3_2q := hr_3_2.resolve_right (by omega); clear hr_3_2) | skip
          refine lv_aload_n hx hb dX11_changeDocument_97 rfl (lv_at hl 4 rfl) ?_
          refine j7_read hx hb hown hK (C := RX11) (T := TX11) (N := 19) rfl hly_13_2 hlk_28 (hh_25.at 5 rfl) dX11_changeDocument_98 ?_
          refine lv_iload_n hx hb dX11_changeDocument_101 rfl (lv_at hl 1 rfl) ?_
          have hsz_29 := hh_25.2.2.2.2.2.1
          have htt_29 := hh_25.2.2.2.2.2.2.1
          refine W.room (fun hrc_29 hrs_29 => ?_)
          refine va_calli (A0 := jA base) (H0 := s.heap) (va_runV (As := [.int r_9]) (rest := []) ⟨hx, hb, hml, hown, hts⟩ (uX4_sizeOfW l dC dI ca base B hB hAp hB6 hB142 G0 H_25 js r_9 pv wk wi wz fk fi fz) (cwV 1 hts (jgV (jWr_35 _ (List.mem_of_getElem? (i := 18) rfl)) (jWr_24 _ (List.mem_of_getElem? (i := 7) rfl)) (jWr_24 _ (List.mem_of_getElem? (i := 8) rfl)) (jWr_1 _ (List.mem_of_getElem? (i := 22) rfl)) (jWr_24 _ (List.mem_of_getElem? (i := 9) rfl))) rfl rfl rfl (by decide +kernel) ⟨by rw [← hR]; exact Nat.le_of_ble_eq_true rfl, by rw [← hR]; exact Nat.le_of_ble_eq_true rfl⟩) ⟨fun a U g mk q => by obtain ⟨q0, q1, q2, qK, q10, q11, q12, q13, q14, q15, q16⟩ := q; exact ⟨q0, q1, q2, jG.calling g mk a qK, q10, q11, q12, q13, q14, q15, q16⟩, hh_25.recv (C := RX4) (T := TX4) (N := 12) hB6 rfl (by decide) hg_js hK, fun U hU hW => ⟨rfl, hU, hh_25.2.1, hG.step hW hU hh_25.1, hg_js, hg_wk, hg_wi, hg_wz, (hh_25.2.2.1.sub (L1 := [(js, 6, 7, .int pv), (js, 6, 0, .ref wk), (js, 6, 1, .ref wi), (js, 6, 2, .ref wz)]) [6, 8, 9, 10] rfl), (hh_25.2.2.2.2.2.2.2.1.sub (L1 := [(wk, 140, 1502, ca 1, fk), (wi, 141, 1502, ca 1, fi), (wz, 142, 1502, ca 1, fz)]) [0, 1, 2] rfl), ⟨(by first | omega | rfl | assumption | fail), (by first | omega | rfl | assumption | fail)⟩⟩⟩ rfl rfl hl.1 rfl (lv_room (Nat.le_of_ble_eq_true rfl)) dX11_changeDocument_102 ⟨by rw [hRc]; show _ + 0 ≤ _; omega, by rw [hRs]; show _ + 0 ≤ _; omega⟩) hh_25.1 (fun q _ h => h) (fun q h => h) (fun r_30 u_29 t_29 H_29 locs_29 ht_29 hvm_29 hr_30 hb_29 hz_29 hk_29 hS_29 => ?_)
          rw [ht_29] at hb_29
          obtain ⟨hb_29, hbF_29⟩ := hb_29
          obtain ⟨hb_291, hb_292, hb_293, hb_294, hb_295⟩ := hb_29
          have hh_29 : jSt (dC, dI) B base G0 G0 EX11_changeDocument s.heap 0 0 [(ret_12, 3, 1, .int version_22), (r0, 13, 4, .ref bo), (bo, 2, 1, .int pc), (bo, 2, 0, .ref pa), (r0, 13, 3, .ref ou), (r0, 13, 2, .ref js), (js, 6, 7, .int pv), (js, 6, 8, .int pu), (js, 6, 0, .ref wk), (js, 6, 1, .ref wi), (js, 6, 2, .ref wz), (js, 6, 4, .ref jkf), (js, 6, 5, .ref jks), (r0, 13, 1, .ref fm), (fm, 4, 1, .int fl), (r0, 13, 7, .ref op), (op, 1, 2, .int sz)] [(wk, 140, 1502, ca 1, fk), (wi, 141, 1502, ca 1, fi), (wz, 142, 1502, ca 1, fz), (jkf, 144, 1502, ca 1, fa), (jks, 145, 1502, ca 1, fs)] [(jFl, jLs dC dI ca G0 3 none), ([(2, 0), (2, 1)], jOl (dC, dI) G0 2 [bo, ou] s.heap), (jFy, jYb dC dI G0), (jFdo, jDcc dC dI ca G0 none ph)] H_29 locs_29 := ((hh_25.call hb_291 hb_292 hb_293 hb_294 hS_29 rfl (L1 := [(ret_12, 3, 1, .int version_22), (r0, 13, 4, .ref bo), (bo, 2, 1, .int pc), (bo, 2, 0, .ref pa), (r0, 13, 3, .ref ou), (r0, 13, 2, .ref js), (js, 6, 7, .int pv), (js, 6, 8, .int pu), (js, 6, 0, .ref wk), (js, 6, 1, .ref wi), (js, 6, 2, .ref wz), (js, 6, 4, .ref jkf), (js, 6, 5, .ref jks), (r0, 13, 1, .ref fm), (fm, 4, 1, .int fl), (r0, 13, 7, .ref op), (op, 1, 2, .int sz)]) [0, 1, 2, 3, 4, 5, 6, 7, 8, 9, 10, 11, 12, 13, 14, 15, 16] rfl rfl (M1 := [(wk, 140, 1502, ca 1, fk), (wi, 141, 1502, ca 1, fi), (wz, 142, 1502, ca 1, fz), (jkf, 144, 1502, ca 1, fa), (jks, 145, 1502, ca 1, fs)]) [0, 1, 2, 3, 4] rfl rfl (I1 := [(jFl, jLs dC dI ca G0 3 none), ([(2, 0), (2, 1)], jOl (dC, dI) G0 2 [bo, ou] s.heap), (jFy, jYb dC dI G0), (jFdo, jDcc dC dI ca G0 none ph)]) [0, 1, 2, 3] rfl rfl).more hb_295)
          clear hh_25 ht_29 hvm_29 hz_29 hk_29 hS_29 hb_291 hb_292 hb_293 hb_294 hb_295
          have hr_30o := jOr.of hr_30
          clear hr_30
          have hr_30 := hr_30o
          clear hr_30o
          refine lv_iconst (v := 1) hx hb dX11_changeDocument_105 (by decide) ?_
          refine lv_icmp_lt (tgt := 122) hx hb dX11_changeDocument_106 (by decide) (fun c_31 => ?_) (fun c_31 => ?_)
          · skip
            have c_31' : r_30.toInt < 1 := jb_lt (rfl) ((by decide)) c_31
            first | (have hr_30q := hr_30.resolve_left (by omega); clear hr_30) | (have hr_30q := hr_30.resolve_right (by omega); clear hr_30) | try clear hr_30
            first | (have hr_9_2q := hr_9_2.resolve_left (by omega); clear hr_9_2) | (have hr_9_2q := hr_9_2.resolve_right (by omega); clear hr_9_2) | skip
            have hsz_32 := hh_29.2.2.2.2.2.1
            have htt_32 := hh_29.2.2.2.2.2.2.1
            refine W.room (fun hrc_32 hrs_32 => ?_)
            refine W.widen (k := LC - s.heap.size) (n := LS - jTot s.heap) (by omega) (by omega) ?_
            rw [hQ]
            exact W.vret hx hb hr (fun t ht hW => ⟨⟨(pc, pa, n_pa, ph, G0), rfl, by (try dsimp only); exact ⟨(by first | omega | rfl | assumption | fail), (by first | omega | rfl | assumption | fail), (by first | omega | rfl | assumption | fail), (by first | omega | rfl | assumption | fail), (by first | assumption | fail | omega), (by first | omega | rfl | assumption | fail)⟩, ⟨hh_29.ra (by first | omega | (simp only; omega)) (by first | omega | (simp only; omega)) (M1 := [(bo, 2, 1, .int pc), (bo, 2, 0, .ref pa)]) [2, 3] rfl ht, hg_pa, jNk.rf, by rw [ht]; exact hh_29.iv 1 rfl, by rw [ht]; exact hh_29.2.2.2.2.2.2.2.2.sub (L1 := [(jFy, jYb dC dI G0), (jFl, jLs dC dI ca G0 3 none), (jFdo, jDcc dC dI ca G0 none ph)]) [2, 0, 3] rfl⟩⟩, by rw [ht]; try exact hh_29.1.1, fun q h9 hq => by rw [ht]; try exact hh_29.1.2.1 q h9 hq⟩) hh_29.1.2.2 dX11_changeDocument_122
          · skip
            have c_31' : r_30.toInt ≥ 1 := jb_lt_n (rfl) ((by decide)) c_31
            first | (have hr_30q := hr_30.resolve_left (by omega); clear hr_30) | (have hr_30q := hr_30.resolve_right (by omega); clear hr_30) | try clear hr_30
            first | (have hr_9_2q := hr_9_2.resolve_left (by omega); clear hr_9_2) | (have hr_9_2q := hr_9_2.resolve_right (by omega); clear hr_9_2) | skip
            refine lv_aload_n hx hb dX11_changeDocument_109 rfl (lv_at hl 4 rfl) ?_
            refine j7_read hx hb hown hK (C := RX11) (T := TX11) (N := 19) rfl hly_13_2 hlk_28 (hh_29.at 5 rfl) dX11_changeDocument_110 ?_
            refine lv_iload_n hx hb dX11_changeDocument_113 rfl (lv_at hl 1 rfl) ?_
            have hsz_33 := hh_29.2.2.2.2.2.1
            have htt_33 := hh_29.2.2.2.2.2.2.1
            refine W.room (fun hrc_33 hrs_33 => ?_)
            refine va_calli (A0 := jA base) (H0 := s.heap) (va_runV (As := [.int r_9]) (rest := []) ⟨hx, hb, hml, hown, hts⟩ (uX4_sizeOfW l dC dI ca base B hB hAp hB6 hB142 G0 H_29 js r_9 pv wk wi wz fk fi fz) (cwV 1 hts (jgV (jWr_35 _ (List.mem_of_getElem? (i := 18) rfl)) (jWr_24 _ (List.mem_of_getElem? (i := 7) rfl)) (jWr_24 _ (List.mem_of_getElem? (i := 8) rfl)) (jWr_1 _ (List.mem_of_getElem? (i := 22) rfl)) (jWr_24 _ (List.mem_of_getElem? (i := 9) rfl))) rfl rfl rfl (by decide +kernel) ⟨by rw [← hR]; exact Nat.le_of_ble_eq_true rfl, by rw [← hR]; exact Nat.le_of_ble_eq_true rfl⟩) ⟨fun a U g mk q => by obtain ⟨q0, q1, q2, qK, q10, q11, q12, q13, q14, q15, q16⟩ := q; exact ⟨q0, q1, q2, jG.calling g mk a qK, q10, q11, q12, q13, q14, q15, q16⟩, hh_29.recv (C := RX4) (T := TX4) (N := 12) hB6 rfl (by decide) hg_js hK, fun U hU hW => ⟨rfl, hU, hh_29.2.1, hG.step hW hU hh_29.1, hg_js, hg_wk, hg_wi, hg_wz, (hh_29.2.2.1.sub (L1 := [(js, 6, 7, .int pv), (js, 6, 0, .ref wk), (js, 6, 1, .ref wi), (js, 6, 2, .ref wz)]) [6, 8, 9, 10] rfl), (hh_29.2.2.2.2.2.2.2.1.sub (L1 := [(wk, 140, 1502, ca 1, fk), (wi, 141, 1502, ca 1, fi), (wz, 142, 1502, ca 1, fz)]) [0, 1, 2] rfl), ⟨(by first | omega | rfl | assumption | fail), (by first | omega | rfl | assumption | fail)⟩⟩⟩ rfl rfl hl.1 rfl (lv_room (Nat.le_of_ble_eq_true rfl)) dX11_changeDocument_114 ⟨by rw [hRc]; show _ + 0 ≤ _; omega, by rw [hRs]; show _ + 0 ≤ _; omega⟩) hh_29.1 (fun q _ h => h) (fun q h => h) (fun r_34 u_33 t_33 H_33 locs_33 ht_33 hvm_33 hr_34 hb_33 hz_33 hk_33 hS_33 => ?_)
            rw [ht_33] at hb_33
            obtain ⟨hb_33, hbF_33⟩ := hb_33
            obtain ⟨hb_331, hb_332, hb_333, hb_334, hb_335⟩ := hb_33
            have hh_33 : jSt (dC, dI) B base G0 G0 EX11_changeDocument s.heap 0 0 [(ret_12, 3, 1, .int version_22), (r0, 13, 4, .ref bo), (bo, 2, 1, .int pc), (bo, 2, 0, .ref pa), (r0, 13, 3, .ref ou), (r0, 13, 2, .ref js), (js, 6, 7, .int pv), (js, 6, 8, .int pu), (js, 6, 0, .ref wk), (js, 6, 1, .ref wi), (js, 6, 2, .ref wz), (js, 6, 4, .ref jkf), (js, 6, 5, .ref jks), (r0, 13, 1, .ref fm), (fm, 4, 1, .int fl), (r0, 13, 7, .ref op), (op, 1, 2, .int sz)] [(wk, 140, 1502, ca 1, fk), (wi, 141, 1502, ca 1, fi), (wz, 142, 1502, ca 1, fz), (jkf, 144, 1502, ca 1, fa), (jks, 145, 1502, ca 1, fs)] [(jFl, jLs dC dI ca G0 3 none), ([(2, 0), (2, 1)], jOl (dC, dI) G0 2 [bo, ou] s.heap), (jFy, jYb dC dI G0), (jFdo, jDcc dC dI ca G0 none ph)] H_33 locs_33 := ((hh_29.call hb_331 hb_332 hb_333 hb_334 hS_33 rfl (L1 := [(ret_12, 3, 1, .int version_22), (r0, 13, 4, .ref bo), (bo, 2, 1, .int pc), (bo, 2, 0, .ref pa), (r0, 13, 3, .ref ou), (r0, 13, 2, .ref js), (js, 6, 7, .int pv), (js, 6, 8, .int pu), (js, 6, 0, .ref wk), (js, 6, 1, .ref wi), (js, 6, 2, .ref wz), (js, 6, 4, .ref jkf), (js, 6, 5, .ref jks), (r0, 13, 1, .ref fm), (fm, 4, 1, .int fl), (r0, 13, 7, .ref op), (op, 1, 2, .int sz)]) [0, 1, 2, 3, 4, 5, 6, 7, 8, 9, 10, 11, 12, 13, 14, 15, 16] rfl rfl (M1 := [(wk, 140, 1502, ca 1, fk), (wi, 141, 1502, ca 1, fi), (wz, 142, 1502, ca 1, fz), (jkf, 144, 1502, ca 1, fa), (jks, 145, 1502, ca 1, fs)]) [0, 1, 2, 3, 4] rfl rfl (I1 := [(jFl, jLs dC dI ca G0 3 none), ([(2, 0), (2, 1)], jOl (dC, dI) G0 2 [bo, ou] s.heap), (jFy, jYb dC dI G0), (jFdo, jDcc dC dI ca G0 none ph)]) [0, 1, 2, 3] rfl rfl).more hb_335)
            clear hh_29 ht_33 hvm_33 hz_33 hk_33 hS_33 hb_331 hb_332 hb_333 hb_334 hb_335
            have hr_34o := jOr.of hr_34
            clear hr_34
            have hr_34 := hr_34o
            clear hr_34o
            refine lv_bipush (v := 8) hx hb dX11_changeDocument_117 (by decide) ?_
            refine lv_icmp_le (tgt := 123) hx hb dX11_changeDocument_119 (by decide) (fun c_35 => ?_) (fun c_35 => ?_)
            · skip
              have c_35' : r_34.toInt ≤ 8 := jb_le (rfl) ((by decide)) c_35
              first | (have hr_34q := hr_34.resolve_left (by omega); clear hr_34) | (have hr_34q := hr_34.resolve_right (by omega); clear hr_34) | try clear hr_34
              first | (have hr_9_2q := hr_9_2.resolve_left (by omega); clear hr_9_2) | (have hr_9_2q := hr_9_2.resolve_right (by omega); clear hr_9_2) | skip
              first | (have hr_5_2q := hr_5_2.resolve_left (by omega); clear hr_5_2) | (have hr_5_2q := hr_5_2.resolve_right (by omega); clear hr_5_2) | try clear hr_5_2
              first | (have hr_3_2q := hr_3_2.resolve_left (by omega); clear hr_3_2) | (have hr_3_2q := hr_3_2.resolve_right (by omega); clear hr_3_2) | skip
              refine lv_aload_n hx hb dX11_changeDocument_123 rfl (lv_at hl 4 rfl) ?_
              obtain ⟨v_36, hv_36, hh_37⟩ := hh_33.pin (C := RX11) (T := TX11) (N := 19) hB13 rfl (by decide) hg_r0 (i := 15) (by decide) rfl
              clear hh_33
              obtain ⟨spare_38, rfl, hg_spare_38⟩ := hv_36
              refine j7_read hx hb hown hK (C := RX11) (T := TX11) (N := 19) rfl hly_13_15 hlk_82 (hh_37.at 0 rfl) dX11_changeDocument_124 ?_
              refine lv_aload hx hb dX11_changeDocument_127 (lv_at hl 0 rfl) ?_
              have hsz_39 := hh_37.2.2.2.2.2.1
              have htt_39 := hh_37.2.2.2.2.2.2.1
              refine W.room (fun hrc_39 hrs_39 => ?_)
              refine va_callv (A0 := jA base) (H0 := s.heap) (va_runV (As := [.ref ret_12]) (rest := []) ⟨hx, hb, hml, hown, hts⟩ (uX1_copyText l dC dI ca base B hB hAp hB3 hB101 G0 H_33 spare_38 ret_12 1 0) (cwV 1 hts (jgV (jWr_41 _ (List.mem_of_getElem? (i := 8) rfl)) (jWr_41 _ (List.mem_of_getElem? (i := 9) rfl)) (jWr_41 _ (List.mem_of_getElem? (i := 10) rfl)) (jWr_2 _ (List.mem_of_getElem? (i := 21) rfl)) (jWr_41 _ (List.mem_of_getElem? (i := 11) rfl))) rfl rfl rfl (by decide +kernel) ⟨by rw [← hR]; exact Nat.le_of_ble_eq_true rfl, by rw [← hR]; exact Nat.le_of_ble_eq_true rfl⟩) ⟨fun a U g mk q => by obtain ⟨q0, q1, q2, qK, q10, q11, q12, q13⟩ := q; exact ⟨q0, q1, q2, jG.calling g mk a qK, q10, q11, q12, q13⟩, hh_37.recv (C := RX1) (T := TX1) (N := 17) hB3 rfl (by decide) hg_spare_38 hK, fun U hU hW => ⟨rfl, hU, hh_37.2.1, hG.step hW hU hh_37.1, hg_spare_38, hg_ret_12, jP.nil, trivial⟩⟩ rfl rfl hl.1 rfl (lv_room (Nat.le_of_ble_eq_true rfl)) dX11_changeDocument_129 ⟨by rw [hRc]; show _ + 0 ≤ _; omega, by rw [hRs]; show _ + 0 ≤ _; omega⟩) hh_37.1 (fun q _ h => h) (fun q h => h) (fun u_39 t_39 H_39 locs_39 ht_39 hvm_39 hr_40 hb_39 hz_39 hk_39 hS_39 => ?_)
              rw [ht_39] at hb_39
              obtain ⟨hb_391, hb_392, hb_393, hb_394, hb_395⟩ := hb_39
              have hh_39 : jSt (dC, dI) B base G0 G0 EX11_changeDocument s.heap 0 0 [(r0, 13, 15, .ref spare_38), (ret_12, 3, 1, .int version_22), (r0, 13, 4, .ref bo), (bo, 2, 1, .int pc), (bo, 2, 0, .ref pa), (r0, 13, 3, .ref ou), (r0, 13, 2, .ref js), (js, 6, 7, .int pv), (js, 6, 8, .int pu), (js, 6, 0, .ref wk), (js, 6, 1, .ref wi), (js, 6, 2, .ref wz), (js, 6, 4, .ref jkf), (js, 6, 5, .ref jks), (r0, 13, 1, .ref fm), (fm, 4, 1, .int fl), (r0, 13, 7, .ref op), (op, 1, 2, .int sz)] [(wk, 140, 1502, ca 1, fk), (wi, 141, 1502, ca 1, fi), (wz, 142, 1502, ca 1, fz), (jkf, 144, 1502, ca 1, fa), (jks, 145, 1502, ca 1, fs)] [(jFl, jLs dC dI ca G0 3 none), ([(2, 0), (2, 1)], jOl (dC, dI) G0 2 [bo, ou] s.heap), (jFy, jYb dC dI G0), (jFdo, jDcc dC dI ca G0 none ph)] H_39 locs_39 := ((hh_37.call hb_391 hb_392 hb_393 hb_394 hS_39 rfl (L1 := [(r0, 13, 15, .ref spare_38), (ret_12, 3, 1, .int version_22), (r0, 13, 4, .ref bo), (bo, 2, 1, .int pc), (bo, 2, 0, .ref pa), (r0, 13, 3, .ref ou), (r0, 13, 2, .ref js), (js, 6, 7, .int pv), (js, 6, 8, .int pu), (js, 6, 0, .ref wk), (js, 6, 1, .ref wi), (js, 6, 2, .ref wz), (js, 6, 4, .ref jkf), (js, 6, 5, .ref jks), (r0, 13, 1, .ref fm), (fm, 4, 1, .int fl), (r0, 13, 7, .ref op), (op, 1, 2, .int sz)]) [0, 1, 2, 3, 4, 5, 6, 7, 8, 9, 10, 11, 12, 13, 14, 15, 16, 17] rfl rfl (M1 := [(wk, 140, 1502, ca 1, fk), (wi, 141, 1502, ca 1, fi), (wz, 142, 1502, ca 1, fz), (jkf, 144, 1502, ca 1, fa), (jks, 145, 1502, ca 1, fs)]) [0, 1, 2, 3, 4] rfl rfl (I1 := [(jFl, jLs dC dI ca G0 3 none), ([(2, 0), (2, 1)], jOl (dC, dI) G0 2 [bo, ou] s.heap), (jFy, jYb dC dI G0), (jFdo, jDcc dC dI ca G0 none ph)]) [0, 1, 2, 3] rfl rfl).more hb_395)
              clear hh_37 ht_39 hvm_39 hz_39 hk_39 hS_39 hb_391 hb_392 hb_393 hb_394 hb_395
              refine lv_aload_n hx hb dX11_changeDocument_132 rfl (lv_at hl 4 rfl) ?_
              refine j7_read hx hb hown hK (C := RX11) (T := TX11) (N := 19) rfl hly_13_2 hlk_28 (hh_39.at 6 rfl) dX11_changeDocument_133 ?_
              refine lv_iload_n hx hb dX11_changeDocument_136 rfl (lv_at hl 1 rfl) ?_
              have hsz_41 := hh_39.2.2.2.2.2.1
              have htt_41 := hh_39.2.2.2.2.2.2.1
              refine W.room (fun hrc_41 hrs_41 => ?_)
              refine va_calli (A0 := jA base) (H0 := s.heap) (va_runV (As := [.int r_9]) (rest := []) ⟨hx, hb, hml, hown, hts⟩ (uX4_firstOf l dC dI ca base B hB hAp hB6 hB141 G0 H_39 js r_9) (cwV 1 hts (jgV (jWr_41 _ (List.mem_of_getElem? (i := 12) rfl)) (jWr_41 _ (List.mem_of_getElem? (i := 13) rfl)) (jWr_41 _ (List.mem_of_getElem? (i := 14) rfl)) (jWr_1 _ (List.mem_of_getElem? (i := 22) rfl)) (jWr_41 _ (List.mem_of_getElem? (i := 15) rfl))) rfl rfl rfl (by decide +kernel) ⟨by rw [← hR]; exact Nat.le_of_ble_eq_true rfl, by rw [← hR]; exact Nat.le_of_ble_eq_true rfl⟩) ⟨fun a U g mk q => by obtain ⟨q0, q1, q2, qK, q10, q11, q12⟩ := q; exact ⟨q0, q1, q2, jG.calling g mk a qK, q10, q11, q12⟩, hh_39.recv (C := RX4) (T := TX4) (N := 12) hB6 rfl (by decide) hg_js hK, fun U hU hW => ⟨rfl, hU, hh_39.2.1, hG.step hW hU hh_39.1, hg_js, jP.nil, trivial⟩⟩ rfl rfl hl.1 rfl (lv_room (Nat.le_of_ble_eq_true rfl)) dX11_changeDocument_137 ⟨by rw [hRc]; show _ + 0 ≤ _; omega, by rw [hRs]; show _ + 0 ≤ _; omega⟩) hh_39.1 (fun q _ h => h) (fun q h => h) (fun r_42 u_41 t_41 H_41 locs_41 ht_41 hvm_41 hr_42 hb_41 hz_41 hk_41 hS_41 => ?_)
              rw [ht_41] at hb_41
              obtain ⟨hb_411, hb_412, hb_413, hb_414, hb_415⟩ := hb_41
              have hh_41 : jSt (dC, dI) B base G0 G0 EX11_changeDocument s.heap 0 0 [(r0, 13, 15, .ref spare_38), (ret_12, 3, 1, .int version_22), (r0, 13, 4, .ref bo), (bo, 2, 1, .int pc), (bo, 2, 0, .ref pa), (r0, 13, 3, .ref ou), (r0, 13, 2, .ref js), (js, 6, 7, .int pv), (js, 6, 8, .int pu), (js, 6, 0, .ref wk), (js, 6, 1, .ref wi), (js, 6, 2, .ref wz), (js, 6, 4, .ref jkf), (js, 6, 5, .ref jks), (r0, 13, 1, .ref fm), (fm, 4, 1, .int fl), (r0, 13, 7, .ref op), (op, 1, 2, .int sz)] [(wk, 140, 1502, ca 1, fk), (wi, 141, 1502, ca 1, fi), (wz, 142, 1502, ca 1, fz), (jkf, 144, 1502, ca 1, fa), (jks, 145, 1502, ca 1, fs)] [(jFl, jLs dC dI ca G0 3 none), ([(2, 0), (2, 1)], jOl (dC, dI) G0 2 [bo, ou] s.heap), (jFy, jYb dC dI G0), (jFdo, jDcc dC dI ca G0 none ph)] H_41 locs_41 := ((hh_39.call hb_411 hb_412 hb_413 hb_414 hS_41 rfl (L1 := [(r0, 13, 15, .ref spare_38), (ret_12, 3, 1, .int version_22), (r0, 13, 4, .ref bo), (bo, 2, 1, .int pc), (bo, 2, 0, .ref pa), (r0, 13, 3, .ref ou), (r0, 13, 2, .ref js), (js, 6, 7, .int pv), (js, 6, 8, .int pu), (js, 6, 0, .ref wk), (js, 6, 1, .ref wi), (js, 6, 2, .ref wz), (js, 6, 4, .ref jkf), (js, 6, 5, .ref jks), (r0, 13, 1, .ref fm), (fm, 4, 1, .int fl), (r0, 13, 7, .ref op), (op, 1, 2, .int sz)]) [0, 1, 2, 3, 4, 5, 6, 7, 8, 9, 10, 11, 12, 13, 14, 15, 16, 17] rfl rfl (M1 := [(wk, 140, 1502, ca 1, fk), (wi, 141, 1502, ca 1, fi), (wz, 142, 1502, ca 1, fz), (jkf, 144, 1502, ca 1, fa), (jks, 145, 1502, ca 1, fs)]) [0, 1, 2, 3, 4] rfl rfl (I1 := [(jFl, jLs dC dI ca G0 3 none), ([(2, 0), (2, 1)], jOl (dC, dI) G0 2 [bo, ou] s.heap), (jFy, jYb dC dI G0), (jFdo, jDcc dC dI ca G0 none ph)]) [0, 1, 2, 3] rfl rfl).more hb_415)
              clear hh_39 ht_41 hvm_41 hz_41 hk_41 hS_41 hb_411 hb_412 hb_413 hb_414 hb_415
              refine lv_istore (lv' := [(5, .int r_42), (4, .ref ret_12), (3, .int r_9), (2, .int r_7), (1, .int r_3), (0, .ref r0)]) hx hb dX11_changeDocument_140 hl (by decide) rfl (fun ls hl => ?_)
              refine lv_iconst (v := 0) hx hb dX11_changeDocument_142 (by decide) ?_
              refine lv_istore (lv' := [(6, .int 0), (5, .int r_42), (4, .ref ret_12), (3, .int r_9), (2, .int r_7), (1, .int r_3), (0, .ref r0)]) hx hb dX11_changeDocument_143 hl (by decide) rfl (fun ls hl => ?_)
              have L145 : ∀ (N : Nat) (v5_43 : Int32) (v6_43 : Int32) (H_43 : Heap) (locs_43 : List Loc), jSt (dC, dI) B base G0 G0 EX11_changeDocument s.heap 0 0 [(ret_12, 3, 1, .int version_22), (r0, 13, 4, .ref bo), (bo, 2, 1, .int pc), (bo, 2, 0, .ref pa), (r0, 13, 3, .ref ou), (r0, 13, 2, .ref js), (js, 6, 7, .int pv), (js, 6, 8, .int pu), (js, 6, 0, .ref wk), (js, 6, 1, .ref wi), (js, 6, 2, .ref wz), (js, 6, 4, .ref jkf), (js, 6, 5, .ref jks), (r0, 13, 1, .ref fm), (fm, 4, 1, .int fl), (r0, 13, 7, .ref op), (op, 1, 2, .int sz)] [(wk, 140, 1502, ca 1, fk), (wi, 141, 1502, ca 1, fi), (wz, 142, 1502, ca 1, fz), (jkf, 144, 1502, ca 1, fa), (jks, 145, 1502, ca 1, fs)] [(jFl, jLs dC dI ca G0 3 none), ([(2, 0), (2, 1)], jOl (dC, dI) G0 2 [bo, ou] s.heap), (jFy, jYb dC dI G0), (jFdo, jDcc dC dI ca G0 none ph)] H_43 locs_43 → (0 ≤ v6_43.toInt ∧ v6_43.toInt ≤ 8 ∧ (v6_43.toInt = 0 ∨ jTxf fk fs pv.toInt)) → (9 - v6_43.toInt : Int) < N → ∀ ls : Array Slot, lv_has ls 7 [(0, .ref r0), (1, .int r_3), (2, .int r_7), (3, .int r_9), (4, .ref ret_12), (5, .int v5_43), (6, .int v6_43)] → W p l e R s m ([.ref r0] : List Value).toArray below meth c H_43 locs_43 0 0 Q (F0 m 145 ls []) := by
                intro N
                induction N with
                | zero => intro v5_43 v6_43 H_43 locs_43 hh_43  hi_43 hm; exact absurd hm (by omega)
                | succ N L145 =>
                  intro v5_43 v6_43 H_43 locs_43 hh_43  hi_43 hm_43 ls hl
                  obtain ⟨hi_43_0, hi_43_1, hi_43_2⟩ := hi_43
                  try clear hr_9_2; try clear hr_7_2; try clear hr_5_2; try clear hr_3_2
                  refine lv_iload hx hb dX11_changeDocument_145 (lv_at hl 6 rfl) ?_
                  refine lv_aload_n hx hb dX11_changeDocument_147 rfl (lv_at hl 0 rfl) ?_
                  refine j7_read hx hb hown hK (C := RX11) (T := TX11) (N := 19) rfl hly_13_2 hlk_28 (hh_43.at 5 rfl) dX11_changeDocument_148 ?_
                  refine lv_iload_n hx hb dX11_changeDocument_151 rfl (lv_at hl 3 rfl) ?_
                  have hsz_44 := hh_43.2.2.2.2.2.1
                  have htt_44 := hh_43.2.2.2.2.2.2.1
                  refine W.room (fun hrc_44 hrs_44 => ?_)
                  refine va_calli (A0 := jA base) (H0 := s.heap) (va_runV (As := [.int r_9]) (rest := [.int v6_43]) ⟨hx, hb, hml, hown, hts⟩ (uX4_sizeOfW l dC dI ca base B hB hAp hB6 hB142 G0 H_43 js r_9 pv wk wi wz fk fi fz) (cwV 1 hts (jgV (jWr_35 _ (List.mem_of_getElem? (i := 18) rfl)) (jWr_24 _ (List.mem_of_getElem? (i := 7) rfl)) (jWr_24 _ (List.mem_of_getElem? (i := 8) rfl)) (jWr_1 _ (List.mem_of_getElem? (i := 22) rfl)) (jWr_24 _ (List.mem_of_getElem? (i := 9) rfl))) rfl rfl rfl (by decide +kernel) ⟨by rw [← hR]; exact Nat.le_of_ble_eq_true rfl, by rw [← hR]; exact Nat.le_of_ble_eq_true rfl⟩) ⟨fun a U g mk q => by obtain ⟨q0, q1, q2, qK, q10, q11, q12, q13, q14, q15, q16⟩ := q; exact ⟨q0, q1, q2, jG.calling g mk a qK, q10, q11, q12, q13, q14, q15, q16⟩, hh_43.recv (C := RX4) (T := TX4) (N := 12) hB6 rfl (by decide) hg_js hK, fun U hU hW => ⟨rfl, hU, hh_43.2.1, hG.step hW hU hh_43.1, hg_js, hg_wk, hg_wi, hg_wz, (hh_43.2.2.1.sub (L1 := [(js, 6, 7, .int pv), (js, 6, 0, .ref wk), (js, 6, 1, .ref wi), (js, 6, 2, .ref wz)]) [6, 8, 9, 10] rfl), (hh_43.2.2.2.2.2.2.2.1.sub (L1 := [(wk, 140, 1502, ca 1, fk), (wi, 141, 1502, ca 1, fi), (wz, 142, 1502, ca 1, fz)]) [0, 1, 2] rfl), ⟨(by first | omega | rfl | assumption | fail), (by first | omega | rfl | assumption | fail)⟩⟩⟩ rfl rfl hl.1 rfl (lv_room (Nat.le_of_ble_eq_true rfl)) dX11_changeDocument_152 ⟨by rw [hRc]; show _ + 0 ≤ _; omega, by rw [hRs]; show _ + 0 ≤ _; omega⟩) hh_43.1 (fun q _ h => h) (fun q h => h) (fun r_45 u_44 t_44 H_44 locs_44 ht_44 hvm_44 hr_45 hb_44 hz_44 hk_44 hS_44 => ?_)
                  rw [ht_44] at hb_44
                  obtain ⟨hb_44, hbF_44⟩ := hb_44
                  obtain ⟨hb_441, hb_442, hb_443, hb_444, hb_445⟩ := hb_44
                  have hh_44 : jSt (dC, dI) B base G0 G0 EX11_changeDocument s.heap 0 0 [(ret_12, 3, 1, .int version_22), (r0, 13, 4, .ref bo), (bo, 2, 1, .int pc), (bo, 2, 0, .ref pa), (r0, 13, 3, .ref ou), (r0, 13, 2, .ref js), (js, 6, 7, .int pv), (js, 6, 8, .int pu), (js, 6, 0, .ref wk), (js, 6, 1, .ref wi), (js, 6, 2, .ref wz), (js, 6, 4, .ref jkf), (js, 6, 5, .ref jks), (r0, 13, 1, .ref fm), (fm, 4, 1, .int fl), (r0, 13, 7, .ref op), (op, 1, 2, .int sz)] [(wk, 140, 1502, ca 1, fk), (wi, 141, 1502, ca 1, fi), (wz, 142, 1502, ca 1, fz), (jkf, 144, 1502, ca 1, fa), (jks, 145, 1502, ca 1, fs)] [(jFl, jLs dC dI ca G0 3 none), ([(2, 0), (2, 1)], jOl (dC, dI) G0 2 [bo, ou] s.heap), (jFy, jYb dC dI G0), (jFdo, jDcc dC dI ca G0 none ph)] H_44 locs_44 := ((hh_43.call hb_441 hb_442 hb_443 hb_444 hS_44 rfl (L1 := [(ret_12, 3, 1, .int version_22), (r0, 13, 4, .ref bo), (bo, 2, 1, .int pc), (bo, 2, 0, .ref pa), (r0, 13, 3, .ref ou), (r0, 13, 2, .ref js), (js, 6, 7, .int pv), (js, 6, 8, .int pu), (js, 6, 0, .ref wk), (js, 6, 1, .ref wi), (js, 6, 2, .ref wz), (js, 6, 4, .ref jkf), (js, 6, 5, .ref jks), (r0, 13, 1, .ref fm), (fm, 4, 1, .int fl), (r0, 13, 7, .ref op), (op, 1, 2, .int sz)]) [0, 1, 2, 3, 4, 5, 6, 7, 8, 9, 10, 11, 12, 13, 14, 15, 16] rfl rfl (M1 := [(wk, 140, 1502, ca 1, fk), (wi, 141, 1502, ca 1, fi), (wz, 142, 1502, ca 1, fz), (jkf, 144, 1502, ca 1, fa), (jks, 145, 1502, ca 1, fs)]) [0, 1, 2, 3, 4] rfl rfl (I1 := [(jFl, jLs dC dI ca G0 3 none), ([(2, 0), (2, 1)], jOl (dC, dI) G0 2 [bo, ou] s.heap), (jFy, jYb dC dI G0), (jFdo, jDcc dC dI ca G0 none ph)]) [0, 1, 2, 3] rfl rfl).more hb_445)
                  clear hh_43 ht_44 hvm_44 hz_44 hk_44 hS_44 hb_441 hb_442 hb_443 hb_444 hb_445
                  have hr_45o := jOr.of hr_45
                  clear hr_45
                  have hr_45 := hr_45o
                  clear hr_45o
                  refine lv_icmp_ge (tgt := 185) hx hb dX11_changeDocument_155 (by decide) (fun c_46 => ?_) (fun c_46 => ?_)
                  · skip
                    have c_46' : v6_43.toInt ≥ r_45.toInt := jb_ge (rfl) (rfl) c_46
                    first | (have hr_45q := hr_45.resolve_left (by omega); clear hr_45) | (have hr_45q := hr_45.resolve_right (by omega); clear hr_45) | try clear hr_45
                    obtain ⟨tx, tx0, tx1, tx2, tx3⟩ : jTxf fk fs pv.toInt := Or.resolve_left hi_43_2 (by omega)
                    have hby : 123 ≤ fl.toInt := jMg.chg (p := r_3.toInt) (d := r_5.toInt) (u := ux) (v := r_7.toInt) (c := r_9.toInt) (t := tx) hp11 (jNde.of (by omega) (by omega) (by omega) (by omega)) (jNde.of (by omega) (by omega) (by omega) (by omega)) (jNde.of (by omega) (by omega) (by omega) (by omega)) (jNde.of (by omega) (by omega) (by omega) (by omega)) (jNde.of (by omega) (by omega) (by omega) (by omega)) (jNde.of (by omega) (by omega) (by omega) (by omega))
                    refine lv_aload_n hx hb dX11_changeDocument_185 rfl (lv_at hl 0 rfl) ?_
                    refine lv_aload hx hb dX11_changeDocument_186 (lv_at hl 4 rfl) ?_
                    have hsz_47 := hh_44.2.2.2.2.2.1
                    have htt_47 := hh_44.2.2.2.2.2.2.1
                    refine W.room (fun hrc_47 hrs_47 => ?_)
                    refine va_callv (A0 := jA base) (H0 := s.heap) (va_runV (As := [.ref ret_12]) (rest := []) ⟨hx, hb, hml, hown, hts⟩ (uX11_dismiss l dC dI ca base B hB hAp hB1 hB2 hB3 hB4 hB10 hB13 hB196 hB222 G0 H_44 r0 ret_12 bo pc pa n_pa ou op sz LC LS) (cwV 1 hts (jgV (jWr_42 _ (List.mem_of_getElem? (i := 1) rfl)) (jWr_42 _ (List.mem_of_getElem? (i := 2) rfl)) (jWr_42 _ (List.mem_of_getElem? (i := 3) rfl)) (jWr_1 _ (List.mem_of_getElem? (i := 2) rfl)) (jWr_42 _ (List.mem_of_getElem? (i := 4) rfl))) rfl rfl rfl (by decide +kernel) ⟨by rw [← hR]; exact Nat.le_of_ble_eq_true rfl, by rw [← hR]; exact Nat.le_of_ble_eq_true rfl⟩) ⟨fun a U g mk q => by obtain ⟨q0, q1, q2, qK, q10, q11, q12, q13, q14, q15, q16, q17, q18, q19, q20⟩ := q; exact ⟨q0, q1, q2, jG.calling g mk a qK, (jK5.moved (Vm.Alike.refl U.vm) q10), (jK7.calling g mk a q11), q12, q13, q14, q15, q16, q17, q18, q19, q20⟩, hh_44.recv (C := RX11) (T := TX11) (N := 19) hB13 rfl (by decide) hg_r0 hK, fun U hU hW => ⟨rfl, hU, hh_44.2.1, hG.step hW hU hh_44.1, jK5.moved hW.alike hK5, (hK7.step hW hU hh_44.1), hg_r0, hg_ret_12, hg_bo, hg_pa, hg_ou, hg_op, (hh_44.2.2.1.sub (L1 := [(r0, 13, 4, .ref bo), (bo, 2, 1, .int pc), (bo, 2, 0, .ref pa), (r0, 13, 3, .ref ou), (r0, 13, 7, .ref op), (op, 1, 2, .int sz)]) [1, 2, 3, 4, 15, 16] rfl), (hh_44.2.2.2.2.2.2.2.2.sub (L1 := [(jFy, jYb dC dI G0), (jFl, jLs dC dI ca G0 3 none)]) [2, 0] rfl), (by omega), (by omega), ⟨(by first | omega | rfl | assumption | fail), (by first | omega | rfl | assumption | fail), (by first | omega | rfl | assumption | fail), (by first | omega | rfl | assumption | fail), (by first | assumption | fail | omega)⟩⟩⟩ rfl rfl hl.1 rfl (lv_room (Nat.le_of_ble_eq_true rfl)) dX11_changeDocument_188 ⟨by rw [hRc]; omega, by rw [hRs]; omega⟩) hh_44.1 (fun q _ h => h) (fun q h => h) (fun u_47 t_47 H_47 locs_47 ht_47 hvm_47 hr_48 hb_47 hz_47 hk_47 hS_47 => ?_)
                    obtain ⟨qc_47, qz_47, qa_47, m_qa_47, G_47⟩ := u_47
                    rw [ht_47] at hb_47
                    simp only at hb_47
                    obtain ⟨⟨hb_471, hb_472, hb_473, hb_474, hb_475, hb_476⟩, hgq_47_0, hN_47, hbO_47, hbE_47⟩ := hb_47
                    have hh_47 : jSt (dC, dI) B base G0 G_47 EX11_changeDocument s.heap (0 + ((m_qa_47 - n_pa) / 16)) (0 + (2 * (m_qa_47 - n_pa))) [(bo, 2, 1, .int qc_47), (op, 1, 2, .int qz_47), (bo, 2, 0, .ref qa_47), (ret_12, 3, 1, .int version_22), (r0, 13, 4, .ref bo), (r0, 13, 3, .ref ou), (r0, 13, 2, .ref js), (js, 6, 7, .int pv), (js, 6, 8, .int pu), (js, 6, 0, .ref wk), (js, 6, 1, .ref wi), (js, 6, 2, .ref wz), (js, 6, 4, .ref jkf), (js, 6, 5, .ref jks), (r0, 13, 1, .ref fm), (fm, 4, 1, .int fl), (r0, 13, 7, .ref op)] [(wk, 140, 1502, ca 1, fk), (wi, 141, 1502, ca 1, fi), (wz, 142, 1502, ca 1, fz), (jkf, 144, 1502, ca 1, fa), (jks, 145, 1502, ca 1, fs)] [(jFdo, jDcc dC dI ca G0 none ph)] H_47 locs_47 := (hh_44.callG hb_471 hb_472 hb_473 hb_474 hb_475 hS_47 rfl (L1 := [(ret_12, 3, 1, .int version_22), (r0, 13, 4, .ref bo), (r0, 13, 3, .ref ou), (r0, 13, 2, .ref js), (js, 6, 7, .int pv), (js, 6, 8, .int pu), (js, 6, 0, .ref wk), (js, 6, 1, .ref wi), (js, 6, 2, .ref wz), (js, 6, 4, .ref jkf), (js, 6, 5, .ref jks), (r0, 13, 1, .ref fm), (fm, 4, 1, .int fl), (r0, 13, 7, .ref op)]) [0, 1, 4, 5, 6, 7, 8, 9, 10, 11, 12, 13, 14, 15] rfl rfl (M1 := [(wk, 140, 1502, ca 1, fk), (wi, 141, 1502, ca 1, fi), (wz, 142, 1502, ca 1, fz), (jkf, 144, 1502, ca 1, fa), (jks, 145, 1502, ca 1, fs)]) [0, 1, 2, 3, 4] rfl rfl (I1 := [(jFdo, jDcc dC dI ca G0 none ph)]) [3] rfl rfl).more hb_476
                    have hNn_47 : (jNk [0, 1, 2, 3, 4, 5, 6, 7, 8, 9, 10, 11, 12, 13, 14, 15, 16]) G0 G_47 := (jNk.rf).tr hN_47
                    have hg_49 := hb_472 _ _ hg_r0
                    have hg_50 := hb_472 _ _ hg_ret_12
                    have hg_51 := hb_472 _ _ hg_bo
                    have hg_52 := hb_472 _ _ hg_ou
                    have hg_53 := hb_472 _ _ hg_js
                    have hg_54 := hb_472 _ _ hg_wk
                    have hg_55 := hb_472 _ _ hg_wi
                    have hg_56 := hb_472 _ _ hg_wz
                    have hg_57 := hb_472 _ _ hg_jkf
                    have hg_58 := hb_472 _ _ hg_jks
                    have hg_59 := hb_472 _ _ hg_fm
                    have hg_60 := hb_472 _ _ hg_op
                    have hd_61 := jDcc.grow (hh_47.iv 0 rfl) hb_472 hN_47 (by decide)
                    have hh_62 := hh_47.sub (L1 := [(bo, 2, 1, .int qc_47), (op, 1, 2, .int qz_47), (bo, 2, 0, .ref qa_47), (ret_12, 3, 1, .int version_22), (r0, 13, 4, .ref bo), (r0, 13, 3, .ref ou), (r0, 13, 2, .ref js), (js, 6, 7, .int pv), (js, 6, 8, .int pu), (js, 6, 0, .ref wk), (js, 6, 1, .ref wi), (js, 6, 2, .ref wz), (js, 6, 4, .ref jkf), (js, 6, 5, .ref jks), (r0, 13, 1, .ref fm), (fm, 4, 1, .int fl), (r0, 13, 7, .ref op)]) [0, 1, 2, 3, 4, 5, 6, 7, 8, 9, 10, 11, 12, 13, 14, 15, 16] rfl (M1 := [(wk, 140, 1502, ca 1, fk), (wi, 141, 1502, ca 1, fi), (wz, 142, 1502, ca 1, fz), (jkf, 144, 1502, ca 1, fa), (jks, 145, 1502, ca 1, fs)]) [0, 1, 2, 3, 4] rfl (I1 := []) [] rfl
                    clear hh_47
                    have hh_63 := hh_62.addI (jDcc.ie hd_61)
                    clear hh_62
                    have hh_64 := hh_63.addIs hbE_47
                    have hd_65 := jOl.trL (hh_44.iv 1 rfl) hh_44.2.2.2.2.1 hbO_47 (by simp)
                    have hh_66 := hh_64.addI (jOl.ie (dC := dC) (dI := dI) (G0 := G0) (k := 2) (rs := [bo, ou]) (H0 := s.heap) (F := [(2, 0), (2, 1)]) (C := RX0) (T := TX0) (N := 2) rfl (by decide) hh_64.2.2.2.2.1 (hd_65))
                    clear hh_64
                    try simp only at hr_48
                    obtain ⟨hr_48_0, hr_48_1, hr_48_2, hr_48_3, hr_48_4, hr_48_5⟩ := hr_48
                    have hh_67 := hh_66.wk (zc1 := (m_qa_47 - n_pa) / 16 + (ph + 200 * fl.toInt.toNat - ph) / 16) (zs1 := 2 * (m_qa_47 - n_pa) + (ph + 200 * fl.toInt.toNat - ph)) (by omega) (by omega)
                    clear hh_66
                    try clear hsz_47 htt_47 hrc_47 hrs_47
                    try clear hb_474 hb_475
                    refine lv_aload hx hb dX11_changeDocument_191 (lv_at hl 4 rfl) ?_
                    refine lv_aload_n hx hb dX11_changeDocument_193 rfl (lv_at hl 0 rfl) ?_
                    obtain ⟨v_68, hv_68, hh_69⟩ := hh_67.pin (C := RX11) (T := TX11) (N := 19) hB13 rfl (by decide) hg_49 (i := 15) (by decide) rfl
                    clear hh_67
                    obtain ⟨spare_70, rfl, hg_spare_70⟩ := hv_68
                    refine j7_read hx hb hown hK (C := RX11) (T := TX11) (N := 19) rfl hly_13_15 hlk_82 (hh_69.at 0 rfl) dX11_changeDocument_194 ?_
                    have hsz_71 := hh_69.2.2.2.2.2.1
                    have htt_71 := hh_69.2.2.2.2.2.2.1
                    refine W.room (fun hrc_71 hrs_71 => ?_)
                    refine va_callv (A0 := jA base) (H0 := s.heap) (va_runV (As := [.ref spare_70]) (rest := []) ⟨hx, hb, hml, hown, hts⟩ (uX1_copyText l dC dI ca base B hB hAp hB3 hB101 G_47 H_47 ret_12 spare_70 0 1) (cwV 1 hts (jgV (jWr_41 _ (List.mem_of_getElem? (i := 8) rfl)) (jWr_41 _ (List.mem_of_getElem? (i := 9) rfl)) (jWr_41 _ (List.mem_of_getElem? (i := 10) rfl)) (jWr_2 _ (List.mem_of_getElem? (i := 21) rfl)) (jWr_41 _ (List.mem_of_getElem? (i := 11) rfl))) rfl rfl rfl (by decide +kernel) ⟨by rw [← hR]; exact Nat.le_of_ble_eq_true rfl, by rw [← hR]; exact Nat.le_of_ble_eq_true rfl⟩) ⟨fun a U g mk q => by obtain ⟨q0, q1, q2, qK, q10, q11, q12, q13⟩ := q; exact ⟨q0, q1, q2, jG.calling g mk a qK, q10, q11, q12, q13⟩, hh_69.recv (C := RX1) (T := TX1) (N := 17) hB3 rfl (by decide) hg_50 hK, fun U hU hW => ⟨rfl, hU, hh_69.2.1, hG.step hW hU hh_69.1, hg_50, hg_spare_70, jP.nil, trivial⟩⟩ rfl rfl hl.1 rfl (lv_room (Nat.le_of_ble_eq_true rfl)) dX11_changeDocument_197 ⟨by rw [hRc]; show _ + 0 ≤ _; omega, by rw [hRs]; show _ + 0 ≤ _; omega⟩) hh_69.1 (fun q _ h => h) (fun q h => h) (fun u_71 t_71 H_71 locs_71 ht_71 hvm_71 hr_72 hb_71 hz_71 hk_71 hS_71 => ?_)
                    rw [ht_71] at hb_71
                    obtain ⟨hb_711, hb_712, hb_713, hb_714, hb_715⟩ := hb_71
                    have hh_71 : jSt (dC, dI) B base G0 G_47 EX11_changeDocument s.heap ((m_qa_47 - n_pa) / 16 + (ph + 200 * fl.toInt.toNat - ph) / 16) (2 * (m_qa_47 - n_pa) + (ph + 200 * fl.toInt.toNat - ph)) [(r0, 13, 15, .ref spare_70), (bo, 2, 1, .int qc_47), (op, 1, 2, .int qz_47), (bo, 2, 0, .ref qa_47), (ret_12, 3, 1, .int version_22), (r0, 13, 4, .ref bo), (r0, 13, 3, .ref ou), (r0, 13, 2, .ref js), (js, 6, 7, .int pv), (js, 6, 8, .int pu), (js, 6, 0, .ref wk), (js, 6, 1, .ref wi), (js, 6, 2, .ref wz), (js, 6, 4, .ref jkf), (js, 6, 5, .ref jks), (r0, 13, 1, .ref fm), (fm, 4, 1, .int fl), (r0, 13, 7, .ref op)] [(wk, 140, 1502, ca 1, fk), (wi, 141, 1502, ca 1, fi), (wz, 142, 1502, ca 1, fz), (jkf, 144, 1502, ca 1, fa), (jks, 145, 1502, ca 1, fs)] [([(2, 0), (2, 1)], jOl (dC, dI) G0 2 [bo, ou] s.heap), (jFy, jYb dC dI G_47), (jFl, jLs dC dI ca G_47 3 none), (jFdo, jDcc dC dI ca G_47 none ph)] H_71 locs_71 := ((hh_69.call hb_711 hb_712 hb_713 hb_714 hS_71 rfl (L1 := [(r0, 13, 15, .ref spare_70), (bo, 2, 1, .int qc_47), (op, 1, 2, .int qz_47), (bo, 2, 0, .ref qa_47), (ret_12, 3, 1, .int version_22), (r0, 13, 4, .ref bo), (r0, 13, 3, .ref ou), (r0, 13, 2, .ref js), (js, 6, 7, .int pv), (js, 6, 8, .int pu), (js, 6, 0, .ref wk), (js, 6, 1, .ref wi), (js, 6, 2, .ref wz), (js, 6, 4, .ref jkf), (js, 6, 5, .ref jks), (r0, 13, 1, .ref fm), (fm, 4, 1, .int fl), (r0, 13, 7, .ref op)]) [0, 1, 2, 3, 4, 5, 6, 7, 8, 9, 10, 11, 12, 13, 14, 15, 16, 17] rfl rfl (M1 := [(wk, 140, 1502, ca 1, fk), (wi, 141, 1502, ca 1, fi), (wz, 142, 1502, ca 1, fz), (jkf, 144, 1502, ca 1, fa), (jks, 145, 1502, ca 1, fs)]) [0, 1, 2, 3, 4] rfl rfl (I1 := [([(2, 0), (2, 1)], jOl (dC, dI) G0 2 [bo, ou] s.heap), (jFy, jYb dC dI G_47), (jFl, jLs dC dI ca G_47 3 none), (jFdo, jDcc dC dI ca G_47 none ph)]) [0, 1, 2, 3] rfl rfl).more hb_715)
                    clear hh_69 ht_71 hvm_71 hz_71 hk_71 hS_71 hb_711 hb_712 hb_713 hb_714 hb_715
                    refine lv_aload hx hb dX11_changeDocument_200 (lv_at hl 4 rfl) ?_
                    refine lv_aload_n hx hb dX11_changeDocument_202 rfl (lv_at hl 0 rfl) ?_
                    refine j7_read hx hb hown hK (C := RX11) (T := TX11) (N := 19) rfl hly_13_2 hlk_28 (hh_71.at 7 rfl) dX11_changeDocument_203 ?_
                    refine lv_iload_n hx hb dX11_changeDocument_206 rfl (lv_at hl 2 rfl) ?_
                    have hsz_73 := hh_71.2.2.2.2.2.1
                    have htt_73 := hh_71.2.2.2.2.2.2.1
                    refine W.room (fun hrc_73 hrs_73 => ?_)
                    refine va_calli (A0 := jA base) (H0 := s.heap) (va_runV (As := [.int r_7]) (rest := [.ref ret_12]) ⟨hx, hb, hml, hown, hts⟩ (uX4_valueOf l dC dI ca base B hB hAp hB6 hB141 G_47 H_71 js r_7) (cwV 1 hts (jgV (jWr_29 _ (List.mem_of_getElem? (i := 0) rfl)) (jWr_24 _ (List.mem_of_getElem? (i := 12) rfl)) (jWr_24 _ (List.mem_of_getElem? (i := 13) rfl)) (jWr_1 _ (List.mem_of_getElem? (i := 22) rfl)) (jWr_24 _ (List.mem_of_getElem? (i := 14) rfl))) rfl rfl rfl (by decide +kernel) ⟨by rw [← hR]; exact Nat.le_of_ble_eq_true rfl, by rw [← hR]; exact Nat.le_of_ble_eq_true rfl⟩) ⟨fun a U g mk q => by obtain ⟨q0, q1, q2, qK, q10, q11, q12⟩ := q; exact ⟨q0, q1, q2, jG.calling g mk a qK, q10, q11, q12⟩, hh_71.recv (C := RX4) (T := TX4) (N := 12) hB6 rfl (by decide) hg_53 hK, fun U hU hW => ⟨rfl, hU, hh_71.2.1, hG.step hW hU hh_71.1, hg_53, jP.nil, trivial⟩⟩ rfl rfl hl.1 rfl (lv_room (Nat.le_of_ble_eq_true rfl)) dX11_changeDocument_207 ⟨by rw [hRc]; show _ + 0 ≤ _; omega, by rw [hRs]; show _ + 0 ≤ _; omega⟩) hh_71.1 (fun q _ h => h) (fun q h => h) (fun r_74 u_73 t_73 H_73 locs_73 ht_73 hvm_73 hr_74 hb_73 hz_73 hk_73 hS_73 => ?_)
                    rw [ht_73] at hb_73
                    obtain ⟨hb_731, hb_732, hb_733, hb_734, hb_735⟩ := hb_73
                    have hh_73 : jSt (dC, dI) B base G0 G_47 EX11_changeDocument s.heap ((m_qa_47 - n_pa) / 16 + (ph + 200 * fl.toInt.toNat - ph) / 16) (2 * (m_qa_47 - n_pa) + (ph + 200 * fl.toInt.toNat - ph)) [(r0, 13, 15, .ref spare_70), (bo, 2, 1, .int qc_47), (op, 1, 2, .int qz_47), (bo, 2, 0, .ref qa_47), (ret_12, 3, 1, .int version_22), (r0, 13, 4, .ref bo), (r0, 13, 3, .ref ou), (r0, 13, 2, .ref js), (js, 6, 7, .int pv), (js, 6, 8, .int pu), (js, 6, 0, .ref wk), (js, 6, 1, .ref wi), (js, 6, 2, .ref wz), (js, 6, 4, .ref jkf), (js, 6, 5, .ref jks), (r0, 13, 1, .ref fm), (fm, 4, 1, .int fl), (r0, 13, 7, .ref op)] [(wk, 140, 1502, ca 1, fk), (wi, 141, 1502, ca 1, fi), (wz, 142, 1502, ca 1, fz), (jkf, 144, 1502, ca 1, fa), (jks, 145, 1502, ca 1, fs)] [([(2, 0), (2, 1)], jOl (dC, dI) G0 2 [bo, ou] s.heap), (jFy, jYb dC dI G_47), (jFl, jLs dC dI ca G_47 3 none), (jFdo, jDcc dC dI ca G_47 none ph)] H_73 locs_73 := ((hh_71.call hb_731 hb_732 hb_733 hb_734 hS_73 rfl (L1 := [(r0, 13, 15, .ref spare_70), (bo, 2, 1, .int qc_47), (op, 1, 2, .int qz_47), (bo, 2, 0, .ref qa_47), (ret_12, 3, 1, .int version_22), (r0, 13, 4, .ref bo), (r0, 13, 3, .ref ou), (r0, 13, 2, .ref js), (js, 6, 7, .int pv), (js, 6, 8, .int pu), (js, 6, 0, .ref wk), (js, 6, 1, .ref wi), (js, 6, 2, .ref wz), (js, 6, 4, .ref jkf), (js, 6, 5, .ref jks), (r0, 13, 1, .ref fm), (fm, 4, 1, .int fl), (r0, 13, 7, .ref op)]) [0, 1, 2, 3, 4, 5, 6, 7, 8, 9, 10, 11, 12, 13, 14, 15, 16, 17] rfl rfl (M1 := [(wk, 140, 1502, ca 1, fk), (wi, 141, 1502, ca 1, fi), (wz, 142, 1502, ca 1, fz), (jkf, 144, 1502, ca 1, fa), (jks, 145, 1502, ca 1, fs)]) [0, 1, 2, 3, 4] rfl rfl (I1 := [([(2, 0), (2, 1)], jOl (dC, dI) G0 2 [bo, ou] s.heap), (jFy, jYb dC dI G_47), (jFl, jLs dC dI ca G_47 3 none), (jFdo, jDcc dC dI ca G_47 none ph)]) [0, 1, 2, 3] rfl rfl).more hb_735)
                    clear hh_71 ht_73 hvm_73 hz_73 hk_73 hS_73 hb_731 hb_732 hb_733 hb_734 hb_735
                    refine j7_put hx hb hown hK hh_73 hB hAp hB3 (C := RX1) (T := TX1) (N := 17) rfl (by decide) hg_50 (i := 1) (by decide) hly_3_1 rfl hlk_162 rfl (ty := .int) (v := .int r_74) (by decide +kernel) rfl rfl (⟨_, rfl⟩) rfl (L1 := [(r0, 13, 15, .ref spare_70), (bo, 2, 1, .int qc_47), (op, 1, 2, .int qz_47), (bo, 2, 0, .ref qa_47), (r0, 13, 4, .ref bo), (r0, 13, 3, .ref ou), (r0, 13, 2, .ref js), (js, 6, 7, .int pv), (js, 6, 8, .int pu), (js, 6, 0, .ref wk), (js, 6, 1, .ref wi), (js, 6, 2, .ref wz), (js, 6, 4, .ref jkf), (js, 6, 5, .ref jks), (r0, 13, 1, .ref fm), (fm, 4, 1, .int fl), (r0, 13, 7, .ref op)]) [0, 1, 2, 3, 5, 6, 7, 8, 9, 10, 11, 12, 13, 14, 15, 16, 17] rfl rfl rfl dX11_changeDocument_210 (fun H_75 locs_75 hh_75 => ?_)
                    clear hh_73
                    obtain ⟨yb_76, ye_76, w_76, pho_76, fb_76, fe_76, ps_76, pk_76, vc_76, hgb_76, hge_76, h5_76, h6_76, hd_76, hpq_76, hE_76, hpl_76, hpw_76⟩ := jDcc.opn (hh_75.iv 3 rfl) hg_50
                    have hpw_76 := hpw_76 rfl
                    have hh_78 := hh_75.sub (L1 := [(ret_12, 3, 1, .int r_74), (r0, 13, 15, .ref spare_70), (bo, 2, 1, .int qc_47), (op, 1, 2, .int qz_47), (bo, 2, 0, .ref qa_47), (r0, 13, 4, .ref bo), (r0, 13, 3, .ref ou), (r0, 13, 2, .ref js), (js, 6, 7, .int pv), (js, 6, 8, .int pu), (js, 6, 0, .ref wk), (js, 6, 1, .ref wi), (js, 6, 2, .ref wz), (js, 6, 4, .ref jkf), (js, 6, 5, .ref jks), (r0, 13, 1, .ref fm), (fm, 4, 1, .int fl), (r0, 13, 7, .ref op)]) [0, 1, 2, 3, 4, 5, 6, 7, 8, 9, 10, 11, 12, 13, 14, 15, 16, 17] rfl (M1 := [(wk, 140, 1502, ca 1, fk), (wi, 141, 1502, ca 1, fi), (wz, 142, 1502, ca 1, fz), (jkf, 144, 1502, ca 1, fa), (jks, 145, 1502, ca 1, fs)]) [0, 1, 2, 3, 4] rfl (I1 := [([(2, 0), (2, 1)], jOl (dC, dI) G0 2 [bo, ou] s.heap), (jFy, jYb dC dI G_47), (jFl, jLs dC dI ca G_47 3 none)]) [0, 1, 2] rfl
                    clear hh_75
                    have hh_79 := (hh_78.more (P1 := [(ret_12, 3, 4, .int ps_76), (ret_12, 3, 10, .int pk_76), (ret_12, 3, 5, .ref yb_76), (ret_12, 3, 6, .ref ye_76)]) (jP.cons hg_50 (hd_76.1 _ (List.mem_of_getElem? (i := 0) rfl)).2 (jP.cons hg_50 (hd_76.1 _ (List.mem_of_getElem? (i := 1) rfl)).2 (jP.cons hg_50 h5_76 (jP.cons hg_50 h6_76 jP.nil))))).moreM hd_76.2.1
                    have hh_80 := hh_79.addI (jDcc.ie hE_76)
                    clear hh_79
                    have hps_76 := hd_76.2.2.2
                    have hsn_76 := hd_76.2.2.1
                    obtain ⟨v_81, hv_81, hh_76⟩ := hh_80.pin (C := RX1) (T := TX1) (N := 17) hB3 rfl (by decide) hg_50 (i := 11) (by decide) rfl
                    have hvq_76 : vc_76 = v_81 := jf.uniq (hd_76.1 _ (List.mem_of_getElem? (i := 2) rfl)).2 (hh_76.at 0 rfl)
                    subst hvq_76
                    clear hh_80
                    rcases hv_81 with rfl | ⟨chk_82, nchk_82, rfl, hg_chk_82, hlen_chk_82⟩
                    · have hpo_76 := jPo.nul (hpq_76 rfl)
                      refine lv_aload hx hb dX11_changeDocument_213 (lv_at hl 4 rfl) ?_
                      refine lv_aload_n hx hb dX11_changeDocument_215 rfl (lv_at hl 0 rfl) ?_
                      obtain ⟨v_84, hv_84, hh_85⟩ := hh_76.pin (C := RX11) (T := TX11) (N := 19) hB13 rfl (by decide) hg_49 (i := 5) (by decide) rfl
                      clear hh_76
                      obtain ⟨kernel_86, rfl, hg_kernel_86⟩ := hv_84
                      refine j7_read hx hb hown hK (C := RX11) (T := TX11) (N := 19) rfl hly_13_5 hlk_41 (hh_85.at 0 rfl) dX11_changeDocument_216 ?_
                      obtain ⟨v_87, hv_87, hh_88⟩ := hh_85.pin (C := RX5) (T := TX5) (N := 11) hB7 rfl (by decide) hg_kernel_86 (i := 1) (by decide) rfl
                      clear hh_85
                      obtain ⟨syntax_89, rfl, hg_syntax_89⟩ := hv_87
                      refine j7_read hx hb hown hK (C := RX5) (T := TX5) (N := 11) rfl hly_7_1 hlk_203 (hh_88.at 0 rfl) dX11_changeDocument_219 ?_
                      obtain ⟨v_92, hv_92, hh_93⟩ := hh_88.pin (C := RX1) (T := TX1) (N := 17) hB3 rfl (by decide) hg_50 (i := 3) (by decide) rfl
                      obtain ⟨length_94, rfl, hlolength_94, hhilength_94⟩ := hv_92
                      have hsz_90 := hh_93.2.2.2.2.2.1
                      have htt_90 := hh_93.2.2.2.2.2.2.1
                      refine W.room (fun hrc_90 hrs_90 => ?_)
                      refine va_callv (A0 := jA base) (H0 := s.heap) (va_runV (As := [.ref syntax_89]) (rest := []) ⟨hx, hb, hml, hown, hts⟩ (uX1_partE l dC dI ca base B hB hAp hB3 hB8 hB12 hB101 hB102 hB132 hB133 hB171 hB172 hB293 G_47 H_75 ret_12 syntax_89 0 length_94 yb_76 ye_76 (pho_76) fb_76 fe_76) (cwV 1 hts (jgV (jWr_36 _ (List.mem_of_getElem? (i := 2) rfl)) (jWr_36 _ (List.mem_of_getElem? (i := 3) rfl)) (jWr_36 _ (List.mem_of_getElem? (i := 4) rfl)) (jWr_2 _ (List.mem_of_getElem? (i := 21) rfl)) (jWr_36 _ (List.mem_of_getElem? (i := 5) rfl))) rfl rfl rfl (by decide +kernel) ⟨by rw [← hR]; exact Nat.le_of_ble_eq_true rfl, by rw [← hR]; exact Nat.le_of_ble_eq_true rfl⟩) ⟨fun a U g mk q => by obtain ⟨q0, q1, q2, qK, q10, q11, q12, q13, q14, q15, q16, q17⟩ := q; exact ⟨q0, q1, q2, jG.calling g mk a qK, q10, q11, q12, q13, q14, q15, q16, q17⟩, hh_93.recv (C := RX1) (T := TX1) (N := 17) hB3 rfl (by decide) hg_50 hK, fun U hU hW => ⟨rfl, hU, hh_93.2.1, hG.step hW hU hh_93.1, hg_50, hg_syntax_89, hgb_76, hge_76, (hh_93.2.2.1.sub (L1 := [(ret_12, 3, 3, .int length_94), (ret_12, 3, 5, .ref yb_76), (ret_12, 3, 6, .ref ye_76)]) [0, 6, 7] rfl), (hh_93.2.2.2.2.2.2.2.1.sub (L1 := [(yb_76, 171, 40, ca 1, fb_76), (ye_76, 172, 40, ca 1, fe_76)]) [0, 1] rfl), (hh_93.2.2.2.2.2.2.2.2.sub (L1 := [(jFdo, jDcc dC dI ca G_47 (some ret_12) pho_76)]) [0] rfl), ⟨(by first | omega | rfl | assumption | fail), (by first | omega | rfl | assumption | fail)⟩⟩⟩ rfl rfl hl.1 rfl (lv_room (Nat.le_of_ble_eq_true rfl)) dX11_changeDocument_222 ⟨by rw [hRc]; show _ + 0 ≤ _; omega, by rw [hRs]; show _ + 0 ≤ _; omega⟩) hh_93.1 (fun q _ h => h) (fun q h => h) (fun u_90 t_90 H_90 locs_90 ht_90 hvm_90 hr_91 hb_90 hz_90 hk_90 hS_90 => ?_)
                      obtain ⟨qs_90, gb_90, ge_90⟩ := u_90
                      rw [ht_90] at hb_90
                      obtain ⟨hb_90, hbE_90⟩ := hb_90
                      obtain ⟨hb_90, hbO_90⟩ := hb_90
                      obtain ⟨⟨hb_901, hb_902, hb_903, hb_904, hb_905⟩, hb_906⟩ := hb_90
                      have hh_90 : jSt (dC, dI) B base G0 G_47 EX11_changeDocument s.heap ((m_qa_47 - n_pa) / 16 + (ph + 200 * fl.toInt.toNat - ph) / 16) (2 * (m_qa_47 - n_pa) + (ph + 200 * fl.toInt.toNat - ph)) [(ret_12, 3, 4, .int qs_90), (ret_12, 3, 3, .int length_94), (kernel_86, 7, 1, .ref syntax_89), (r0, 13, 5, .ref kernel_86), (ret_12, 3, 11, .null), (ret_12, 3, 10, .int pk_76), (ret_12, 3, 5, .ref yb_76), (ret_12, 3, 6, .ref ye_76), (ret_12, 3, 1, .int r_74), (r0, 13, 15, .ref spare_70), (bo, 2, 1, .int qc_47), (op, 1, 2, .int qz_47), (bo, 2, 0, .ref qa_47), (r0, 13, 4, .ref bo), (r0, 13, 3, .ref ou), (r0, 13, 2, .ref js), (js, 6, 7, .int pv), (js, 6, 8, .int pu), (js, 6, 0, .ref wk), (js, 6, 1, .ref wi), (js, 6, 2, .ref wz), (js, 6, 4, .ref jkf), (js, 6, 5, .ref jks), (r0, 13, 1, .ref fm), (fm, 4, 1, .int fl), (r0, 13, 7, .ref op)] [(yb_76, 171, 40, ca 1, gb_90), (ye_76, 172, 40, ca 1, ge_90), (wk, 140, 1502, ca 1, fk), (wi, 141, 1502, ca 1, fi), (wz, 142, 1502, ca 1, fz), (jkf, 144, 1502, ca 1, fa), (jks, 145, 1502, ca 1, fs)] [(jFdo, jDcc dC dI ca G_47 (some ret_12) pho_76), ([(2, 0), (2, 1)], jOl (dC, dI) G0 2 [bo, ou] s.heap), (jFy, jYb dC dI G_47), (jFl, jLs dC dI ca G_47 3 none)] H_90 locs_90 := (((hh_93.call hb_901 hb_902 hb_903 hb_904 hS_90 rfl (L1 := [(ret_12, 3, 3, .int length_94), (kernel_86, 7, 1, .ref syntax_89), (r0, 13, 5, .ref kernel_86), (ret_12, 3, 11, .null), (ret_12, 3, 10, .int pk_76), (ret_12, 3, 5, .ref yb_76), (ret_12, 3, 6, .ref ye_76), (ret_12, 3, 1, .int r_74), (r0, 13, 15, .ref spare_70), (bo, 2, 1, .int qc_47), (op, 1, 2, .int qz_47), (bo, 2, 0, .ref qa_47), (r0, 13, 4, .ref bo), (r0, 13, 3, .ref ou), (r0, 13, 2, .ref js), (js, 6, 7, .int pv), (js, 6, 8, .int pu), (js, 6, 0, .ref wk), (js, 6, 1, .ref wi), (js, 6, 2, .ref wz), (js, 6, 4, .ref jkf), (js, 6, 5, .ref jks), (r0, 13, 1, .ref fm), (fm, 4, 1, .int fl), (r0, 13, 7, .ref op)]) [0, 1, 2, 3, 5, 6, 7, 8, 9, 10, 11, 12, 13, 14, 15, 16, 17, 18, 19, 20, 21, 22, 23, 24, 25] rfl rfl (M1 := [(wk, 140, 1502, ca 1, fk), (wi, 141, 1502, ca 1, fi), (wz, 142, 1502, ca 1, fz), (jkf, 144, 1502, ca 1, fa), (jks, 145, 1502, ca 1, fs)]) [2, 3, 4, 5, 6] rfl rfl (I1 := [([(2, 0), (2, 1)], jOl (dC, dI) G0 2 [bo, ou] s.heap), (jFy, jYb dC dI G_47), (jFl, jLs dC dI ca G_47 3 none)]) [1, 2, 3] rfl rfl).more hb_905).moreM hb_906).addIs hbE_90
                      clear hh_93 ht_90 hvm_90 hz_90 hk_90 hS_90 hb_901 hb_902 hb_903 hb_904 hb_905
                      clear hb_906
                      clear  hbE_90
                      try simp only at hr_91
                      obtain ⟨hr_91_0, hr_91_1, hr_91_2⟩ := hr_91
                      refine lv_aload hx hb dX11_changeDocument_225 (lv_at hl 4 rfl) ?_
                      have hsz_95 := hh_90.2.2.2.2.2.1
                      have htt_95 := hh_90.2.2.2.2.2.2.1
                      refine W.room (fun hrc_95 hrs_95 => ?_)
                      refine va_calli (A0 := jA base) (H0 := s.heap) (va_runV (As := []) (rest := []) ⟨hx, hb, hml, hown, hts⟩ (uX1_keepCheckedE l dC dI ca base B hB hAp hB3 hB11 hB101 hB171 hB172 hB210 G_47 H_90 ret_12 yb_76 ye_76 qs_90 pk_76 (pho_76)) (cwV 0 hts (jgV (jWr_42 _ (List.mem_of_getElem? (i := 16) rfl)) (jWr_42 _ (List.mem_of_getElem? (i := 17) rfl)) (jWr_42 _ (List.mem_of_getElem? (i := 18) rfl)) (jWr_2 _ (List.mem_of_getElem? (i := 21) rfl)) (jWr_42 _ (List.mem_of_getElem? (i := 19) rfl))) rfl rfl rfl (by decide +kernel) ⟨by rw [← hR]; exact Nat.le_of_ble_eq_true rfl, by rw [← hR]; exact Nat.le_of_ble_eq_true rfl⟩) ⟨fun a U g mk q => by obtain ⟨q0, q1, q2, qK, q10, q11, q12, q13, q14, q15, q16⟩ := q; exact ⟨q0, q1, q2, jG.calling g mk a qK, (va_K.moved (Vm.Alike.refl U.vm) q10), q11, q12, q13, q14, q15, q16⟩, hh_90.recv (C := RX1) (T := TX1) (N := 17) hB3 rfl (by decide) hg_50 hK, fun U hU hW => ⟨rfl, hU, hh_90.2.1, hG.step hW hU hh_90.1, va_K.moved hW.alike hK2, hg_50, hgb_76, hge_76, (hh_90.2.2.1.sub (L1 := [(ret_12, 3, 5, .ref yb_76), (ret_12, 3, 6, .ref ye_76), (ret_12, 3, 4, .int qs_90), (ret_12, 3, 10, .int pk_76)]) [6, 7, 0, 5] rfl), (hh_90.2.2.2.2.2.2.2.2.sub (L1 := [(jFdo, jDcc dC dI ca G_47 (some ret_12) pho_76)]) [0] rfl), ⟨(by first | omega | rfl | assumption | fail), (by first | omega | rfl | assumption | fail), (by first | omega | rfl | assumption | fail), (by first | omega | rfl | assumption | fail)⟩⟩⟩ rfl rfl hl.1 rfl (lv_room (Nat.le_of_ble_eq_true rfl)) dX11_changeDocument_227 ⟨by rw [hRc]; show _ + 0 ≤ _; omega, by rw [hRs]; show _ + 0 ≤ _; omega⟩) hh_90.1 (fun q _ h => h) (fun q h => h) (fun r_96 u_95 t_95 H_95 locs_95 ht_95 hvm_95 hr_96 hb_95 hz_95 hk_95 hS_95 => ?_)
                      obtain ⟨qk_95, rfl⟩ : ∃ z, z = u_95 := ⟨_, rfl⟩
                      rw [ht_95] at hb_95
                      obtain ⟨hb_95, hbE_95⟩ := hb_95
                      obtain ⟨hb_95, hbO_95⟩ := hb_95
                      obtain ⟨hb_951, hb_952, hb_953, hb_954, hb_955⟩ := hb_95
                      have hh_95 : jSt (dC, dI) B base G0 G_47 EX11_changeDocument s.heap ((m_qa_47 - n_pa) / 16 + (ph + 200 * fl.toInt.toNat - ph) / 16) (2 * (m_qa_47 - n_pa) + (ph + 200 * fl.toInt.toNat - ph)) [(ret_12, 3, 10, .int qk_95), (ret_12, 3, 4, .int qs_90), (ret_12, 3, 3, .int length_94), (kernel_86, 7, 1, .ref syntax_89), (r0, 13, 5, .ref kernel_86), (ret_12, 3, 11, .null), (ret_12, 3, 5, .ref yb_76), (ret_12, 3, 6, .ref ye_76), (ret_12, 3, 1, .int r_74), (r0, 13, 15, .ref spare_70), (bo, 2, 1, .int qc_47), (op, 1, 2, .int qz_47), (bo, 2, 0, .ref qa_47), (r0, 13, 4, .ref bo), (r0, 13, 3, .ref ou), (r0, 13, 2, .ref js), (js, 6, 7, .int pv), (js, 6, 8, .int pu), (js, 6, 0, .ref wk), (js, 6, 1, .ref wi), (js, 6, 2, .ref wz), (js, 6, 4, .ref jkf), (js, 6, 5, .ref jks), (r0, 13, 1, .ref fm), (fm, 4, 1, .int fl), (r0, 13, 7, .ref op)] [(yb_76, 171, 40, ca 1, gb_90), (ye_76, 172, 40, ca 1, ge_90), (wk, 140, 1502, ca 1, fk), (wi, 141, 1502, ca 1, fi), (wz, 142, 1502, ca 1, fz), (jkf, 144, 1502, ca 1, fa), (jks, 145, 1502, ca 1, fs)] [(jFdo, jDcc dC dI ca G_47 (some ret_12) pho_76), ([(2, 0), (2, 1)], jOl (dC, dI) G0 2 [bo, ou] s.heap), (jFy, jYb dC dI G_47), (jFl, jLs dC dI ca G_47 3 none)] H_95 locs_95 := (((hh_90.call hb_951 hb_952 hb_953 hb_954 hS_95 rfl (L1 := [(ret_12, 3, 4, .int qs_90), (ret_12, 3, 3, .int length_94), (kernel_86, 7, 1, .ref syntax_89), (r0, 13, 5, .ref kernel_86), (ret_12, 3, 11, .null), (ret_12, 3, 5, .ref yb_76), (ret_12, 3, 6, .ref ye_76), (ret_12, 3, 1, .int r_74), (r0, 13, 15, .ref spare_70), (bo, 2, 1, .int qc_47), (op, 1, 2, .int qz_47), (bo, 2, 0, .ref qa_47), (r0, 13, 4, .ref bo), (r0, 13, 3, .ref ou), (r0, 13, 2, .ref js), (js, 6, 7, .int pv), (js, 6, 8, .int pu), (js, 6, 0, .ref wk), (js, 6, 1, .ref wi), (js, 6, 2, .ref wz), (js, 6, 4, .ref jkf), (js, 6, 5, .ref jks), (r0, 13, 1, .ref fm), (fm, 4, 1, .int fl), (r0, 13, 7, .ref op)]) [0, 1, 2, 3, 4, 6, 7, 8, 9, 10, 11, 12, 13, 14, 15, 16, 17, 18, 19, 20, 21, 22, 23, 24, 25] rfl rfl (M1 := [(yb_76, 171, 40, ca 1, gb_90), (ye_76, 172, 40, ca 1, ge_90), (wk, 140, 1502, ca 1, fk), (wi, 141, 1502, ca 1, fi), (wz, 142, 1502, ca 1, fz), (jkf, 144, 1502, ca 1, fa), (jks, 145, 1502, ca 1, fs)]) [0, 1, 2, 3, 4, 5, 6] rfl rfl (I1 := [([(2, 0), (2, 1)], jOl (dC, dI) G0 2 [bo, ou] s.heap), (jFy, jYb dC dI G_47), (jFl, jLs dC dI ca G_47 3 none)]) [1, 2, 3] rfl rfl).more hb_955)).addIs hbE_95
                      clear hh_90 ht_95 hvm_95 hz_95 hk_95 hS_95 hb_951 hb_952 hb_953 hb_954 hb_955
                      clear  hbE_95
                      obtain ⟨hr_96b, hr_96p⟩ := hr_96
                      obtain ⟨hr_96p_0, hr_96p_1, hr_96p_2, hr_96p_3⟩ := hr_96p
                      have hr_96p_3o := jOr.of hr_96p_3
                      clear hr_96p_3
                      have hr_96p_3 := hr_96p_3o
                      clear hr_96p_3o
                      have hr_96' := jb_01 hr_96b
                      refine lv_if_ne (tgt := 239) hx hb dX11_changeDocument_230 (by decide) (fun c_97 => ?_) (fun c_97 => ?_)
                      · skip
                        have c_97' : r_96.toInt ≠ 0 := jb_ne (rfl) ((by decide)) c_97
                        first | (have hr_96p_3q := hr_96p_3.resolve_left (by omega); clear hr_96p_3) | (have hr_96p_3q := hr_96p_3.resolve_right (by omega); clear hr_96p_3) | skip
                        have hjg := jEd.ge hr_91_2 (k := qk_95.toInt) (by omega)
                        have hjh := jSn.ge hr_91_2 (k := qk_95.toInt) (by omega)
                        obtain ⟨phn_98, hphn_98⟩ : ∃ q : Nat, q = pho_76 + (575 * (qs_90.toInt - qk_95.toInt) + (1500 - jEd ge_90 qk_95.toInt)).toNat := ⟨_, rfl⟩
                        have hF_98 := jDcc.full (ph1 := phn_98) (hh_95.iv 0 rfl) hg_50 (hh_95.at 6 rfl) (hh_95.at 7 rfl) ⟨(hh_95.2.2.1.sub (L1 := [(ret_12, 3, 4, .int qs_90), (ret_12, 3, 10, .int qk_95), (ret_12, 3, 11, .null)]) [1, 0, 5] rfl), (hh_95.2.2.2.2.2.2.2.1.sub (L1 := [(yb_76, 171, 40, ca 1, gb_90), (ye_76, 172, 40, ca 1, ge_90)]) [0, 1] rfl), (hr_91_2.mono (by omega)), by omega⟩ (w := (575 * (qs_90.toInt - qk_95.toInt) + (1500 - jEd ge_90 qk_95.toInt)).toNat) (fun _ => jPo.mkN (by omega)) (by omega) (fun _ => by omega)
                        have hh_99 := hh_95.sub (L1 := [(ret_12, 3, 10, .int qk_95), (ret_12, 3, 4, .int qs_90), (ret_12, 3, 3, .int length_94), (kernel_86, 7, 1, .ref syntax_89), (r0, 13, 5, .ref kernel_86), (ret_12, 3, 11, .null), (ret_12, 3, 5, .ref yb_76), (ret_12, 3, 6, .ref ye_76), (ret_12, 3, 1, .int r_74), (r0, 13, 15, .ref spare_70), (bo, 2, 1, .int qc_47), (op, 1, 2, .int qz_47), (bo, 2, 0, .ref qa_47), (r0, 13, 4, .ref bo), (r0, 13, 3, .ref ou), (r0, 13, 2, .ref js), (js, 6, 7, .int pv), (js, 6, 8, .int pu), (js, 6, 0, .ref wk), (js, 6, 1, .ref wi), (js, 6, 2, .ref wz), (js, 6, 4, .ref jkf), (js, 6, 5, .ref jks), (r0, 13, 1, .ref fm), (fm, 4, 1, .int fl), (r0, 13, 7, .ref op)]) [0, 1, 2, 3, 4, 5, 6, 7, 8, 9, 10, 11, 12, 13, 14, 15, 16, 17, 18, 19, 20, 21, 22, 23, 24, 25] rfl (M1 := [(yb_76, 171, 40, ca 1, gb_90), (ye_76, 172, 40, ca 1, ge_90), (wk, 140, 1502, ca 1, fk), (wi, 141, 1502, ca 1, fi), (wz, 142, 1502, ca 1, fz), (jkf, 144, 1502, ca 1, fa), (jks, 145, 1502, ca 1, fs)]) [0, 1, 2, 3, 4, 5, 6] rfl (I1 := [([(2, 0), (2, 1)], jOl (dC, dI) G0 2 [bo, ou] s.heap), (jFy, jYb dC dI G_47), (jFl, jLs dC dI ca G_47 3 none)]) [1, 2, 3] rfl
                        clear hh_95
                        have hh_100 := hh_99.addI (jDcc.ie hF_98)
                        clear hh_99
                        refine lv_aload hx hb dX11_changeDocument_239 (lv_at hl 4 rfl) ?_
                        refine j7_read hx hb hown hK (C := RX1) (T := TX1) (N := 17) rfl hly_3_10 hlk_171 (hh_100.at 0 rfl) dX11_changeDocument_241 ?_
                        refine lv_aload hx hb dX11_changeDocument_244 (lv_at hl 4 rfl) ?_
                        refine j7_read hx hb hown hK (C := RX1) (T := TX1) (N := 17) rfl hly_3_4 hlk_168 (hh_100.at 1 rfl) dX11_changeDocument_246 ?_
                        refine lv_icmp_ne (tgt := 259) hx hb dX11_changeDocument_249 (by decide) (fun c_101 => ?_) (fun c_101 => ?_)
                        · skip
                          have c_101' : qk_95.toInt ≠ qs_90.toInt := jb_ne (rfl) (rfl) c_101
                          have hsz_102 := hh_100.2.2.2.2.2.1
                          have htt_102 := hh_100.2.2.2.2.2.2.1
                          refine W.room (fun hrc_102 hrs_102 => ?_)
                          refine W.widen (k := LC - s.heap.size) (n := LS - jTot s.heap) (by omega) (by omega) ?_
                          rw [hQ]
                          exact W.vret hx hb hr (fun t ht hW => ⟨⟨(qc_47, qa_47, m_qa_47, phn_98, G_47), rfl, by (try dsimp only); exact ⟨(by first | omega | rfl | assumption | fail), (by first | omega | rfl | assumption | fail), (by first | omega | rfl | assumption | fail), (by first | omega | rfl | assumption | fail), (by first | assumption | fail | omega), (by first | omega | rfl | assumption | fail)⟩, ⟨hh_100.ra (by first | omega | (simp only; omega)) (by first | omega | (simp only; omega)) (M1 := [(bo, 2, 1, .int qc_47), (bo, 2, 0, .ref qa_47)]) [10, 12] rfl ht, hgq_47_0, hNn_47, by rw [ht]; exact hh_100.iv 1 rfl, by rw [ht]; exact hh_100.2.2.2.2.2.2.2.2.sub (L1 := [(jFy, jYb dC dI G_47), (jFl, jLs dC dI ca G_47 3 none), (jFdo, jDcc dC dI ca G_47 none phn_98)]) [2, 3, 0] rfl⟩⟩, by rw [ht]; try exact hh_100.1.1, fun q h9 hq => by rw [ht]; try exact hh_100.1.2.1 q h9 hq⟩) hh_100.1.2.2 dX11_changeDocument_259
                        · skip
                          have c_101' : qk_95.toInt = qs_90.toInt := jb_ne_n (rfl) (rfl) c_101
                          first | (have hr_96p_3q := hr_96p_3.resolve_left (by omega); clear hr_96p_3) | (have hr_96p_3q := hr_96p_3.resolve_right (by omega); clear hr_96p_3) | skip
                          refine lv_aload_n hx hb dX11_changeDocument_252 rfl (lv_at hl 0 rfl) ?_
                          refine lv_aload hx hb dX11_changeDocument_253 (lv_at hl 4 rfl) ?_
                          refine lv_iconst (v := 1) hx hb dX11_changeDocument_255 (by decide) ?_
                          have hsz_103 := hh_100.2.2.2.2.2.1
                          have htt_103 := hh_100.2.2.2.2.2.2.1
                          refine W.room (fun hrc_103 hrs_103 => ?_)
                          refine va_callv (A0 := jA base) (H0 := s.heap) (va_runV (As := [.ref ret_12, .int 1]) (rest := []) ⟨hx, hb, hml, hown, hts⟩ (uX11_publish l dC dI ca base B hB hAp hB2 hB3 hB4 hB11 hB13 hB101 hB171 hB172 hB196 hB210 G_47 H_95 r0 ret_12 1 bo qc_47 qa_47 m_qa_47 ou LC LS) (cwV 2 hts (jgV (jWr_39 _ (List.mem_of_getElem? (i := 19) rfl)) (jWr_39 _ (List.mem_of_getElem? (i := 20) rfl)) (jWr_39 _ (List.mem_of_getElem? (i := 21) rfl)) (jWr_1 _ (List.mem_of_getElem? (i := 2) rfl)) (jWr_39 _ (List.mem_of_getElem? (i := 22) rfl))) rfl rfl rfl (by decide +kernel) ⟨by rw [← hR]; exact Nat.le_of_ble_eq_true rfl, by rw [← hR]; exact Nat.le_of_ble_eq_true rfl⟩) ⟨fun a U g mk q => by obtain ⟨q0, q1, q2, qK, q10, q11, q12, q13, q14, q15, q16, q17, q18, q19⟩ := q; exact ⟨q0, q1, q2, jG.calling g mk a qK, (va_K.moved (Vm.Alike.refl U.vm) q10), q11, q12, q13, q14, q15, q16, q17, q18, q19⟩, hh_100.recv (C := RX11) (T := TX11) (N := 19) hB13 rfl (by decide) hg_49 hK, fun U hU hW => ⟨rfl, hU, hh_100.2.1, hG.step hW hU hh_100.1, va_K.moved hW.alike hK2, hg_50, hg_49, (Or.inr rfl), hg_51, hgq_47_0, hg_52, (hh_100.2.2.1.sub (L1 := [(r0, 13, 4, .ref bo), (bo, 2, 1, .int qc_47), (bo, 2, 0, .ref qa_47), (r0, 13, 3, .ref ou)]) [13, 10, 12, 14] rfl), (hh_100.2.2.2.2.2.2.2.2.sub (L1 := [(jFy, jYb dC dI G_47)]) [2] rfl), (by omega), (by omega), ⟨(by first | omega | rfl | assumption | fail), (by first | omega | rfl | assumption | fail), (by first | omega | rfl | assumption | fail), (by first | omega | rfl | assumption | fail), (by first | assumption | fail | omega)⟩⟩⟩ rfl rfl hl.1 rfl (lv_room (Nat.le_of_ble_eq_true rfl)) dX11_changeDocument_256 ⟨by rw [hRc]; omega, by rw [hRs]; omega⟩) hh_100.1 (fun q _ h => h) (fun q h => h) (fun u_103 t_103 H_103 locs_103 ht_103 hvm_103 hr_104 hb_103 hz_103 hk_103 hS_103 => ?_)
                          obtain ⟨qc_103, qa_103, m_qa_103, G_103⟩ := u_103
                          rw [ht_103] at hb_103
                          simp only at hb_103
                          obtain ⟨⟨hb_1031, hb_1032, hb_1033, hb_1034, hb_1035, hb_1036⟩, hgq_103_0, hN_103, hbO_103, hbE_103⟩ := hb_103
                          have hh_103 : jSt (dC, dI) B base G0 G_103 EX11_changeDocument s.heap (((m_qa_47 - n_pa) / 16 + (ph + 200 * fl.toInt.toNat - ph) / 16) + ((m_qa_103 - m_qa_47) / 16)) ((2 * (m_qa_47 - n_pa) + (ph + 200 * fl.toInt.toNat - ph)) + (2 * (m_qa_103 - m_qa_47))) [(bo, 2, 1, .int qc_103), (bo, 2, 0, .ref qa_103), (ret_12, 3, 10, .int qk_95), (ret_12, 3, 4, .int qs_90), (ret_12, 3, 3, .int length_94), (kernel_86, 7, 1, .ref syntax_89), (r0, 13, 5, .ref kernel_86), (ret_12, 3, 11, .null), (ret_12, 3, 5, .ref yb_76), (ret_12, 3, 6, .ref ye_76), (ret_12, 3, 1, .int r_74), (r0, 13, 15, .ref spare_70), (op, 1, 2, .int qz_47), (r0, 13, 4, .ref bo), (r0, 13, 3, .ref ou), (r0, 13, 2, .ref js), (js, 6, 7, .int pv), (js, 6, 8, .int pu), (js, 6, 0, .ref wk), (js, 6, 1, .ref wi), (js, 6, 2, .ref wz), (js, 6, 4, .ref jkf), (js, 6, 5, .ref jks), (r0, 13, 1, .ref fm), (fm, 4, 1, .int fl), (r0, 13, 7, .ref op)] [(yb_76, 171, 40, ca 1, gb_90), (ye_76, 172, 40, ca 1, ge_90), (wk, 140, 1502, ca 1, fk), (wi, 141, 1502, ca 1, fi), (wz, 142, 1502, ca 1, fz), (jkf, 144, 1502, ca 1, fa), (jks, 145, 1502, ca 1, fs)] [(jFdo, jDcc dC dI ca G_47 none phn_98), (jFl, jLs dC dI ca G_47 3 none)] H_103 locs_103 := (hh_100.callG hb_1031 hb_1032 hb_1033 hb_1034 hb_1035 hS_103 rfl (L1 := [(ret_12, 3, 10, .int qk_95), (ret_12, 3, 4, .int qs_90), (ret_12, 3, 3, .int length_94), (kernel_86, 7, 1, .ref syntax_89), (r0, 13, 5, .ref kernel_86), (ret_12, 3, 11, .null), (ret_12, 3, 5, .ref yb_76), (ret_12, 3, 6, .ref ye_76), (ret_12, 3, 1, .int r_74), (r0, 13, 15, .ref spare_70), (op, 1, 2, .int qz_47), (r0, 13, 4, .ref bo), (r0, 13, 3, .ref ou), (r0, 13, 2, .ref js), (js, 6, 7, .int pv), (js, 6, 8, .int pu), (js, 6, 0, .ref wk), (js, 6, 1, .ref wi), (js, 6, 2, .ref wz), (js, 6, 4, .ref jkf), (js, 6, 5, .ref jks), (r0, 13, 1, .ref fm), (fm, 4, 1, .int fl), (r0, 13, 7, .ref op)]) [0, 1, 2, 3, 4, 5, 6, 7, 8, 9, 11, 13, 14, 15, 16, 17, 18, 19, 20, 21, 22, 23, 24, 25] rfl rfl (M1 := [(yb_76, 171, 40, ca 1, gb_90), (ye_76, 172, 40, ca 1, ge_90), (wk, 140, 1502, ca 1, fk), (wi, 141, 1502, ca 1, fi), (wz, 142, 1502, ca 1, fz), (jkf, 144, 1502, ca 1, fa), (jks, 145, 1502, ca 1, fs)]) [0, 1, 2, 3, 4, 5, 6] rfl rfl (I1 := [(jFdo, jDcc dC dI ca G_47 none phn_98), (jFl, jLs dC dI ca G_47 3 none)]) [0, 3] rfl rfl).more hb_1036
                          have hNn_103 : (jNk [0, 1, 2, 3, 4, 5, 6, 7, 8, 9, 10, 11, 12, 13, 14, 15, 16]) G0 G_103 := (hNn_47).tr hN_103
                          have hg_105 := hb_1032 _ _ hg_49
                          have hg_106 := hb_1032 _ _ hg_50
                          have hg_107 := hb_1032 _ _ hg_syntax_89
                          have hg_108 := hb_1032 _ _ hg_kernel_86
                          have hg_109 := hb_1032 _ _ hgb_76
                          have hg_110 := hb_1032 _ _ hge_76
                          have hg_111 := hb_1032 _ _ hg_spare_70
                          have hg_112 := hb_1032 _ _ hg_51
                          have hg_113 := hb_1032 _ _ hg_52
                          have hg_114 := hb_1032 _ _ hg_53
                          have hg_115 := hb_1032 _ _ hg_54
                          have hg_116 := hb_1032 _ _ hg_55
                          have hg_117 := hb_1032 _ _ hg_56
                          have hg_118 := hb_1032 _ _ hg_57
                          have hg_119 := hb_1032 _ _ hg_58
                          have hg_120 := hb_1032 _ _ hg_59
                          have hg_121 := hb_1032 _ _ hg_60
                          have hd_122 := jDcc.grow (hh_103.iv 0 rfl) hb_1032 hN_103 (by decide)
                          have hh_123 := hh_103.sub (L1 := [(bo, 2, 1, .int qc_103), (bo, 2, 0, .ref qa_103), (ret_12, 3, 10, .int qk_95), (ret_12, 3, 4, .int qs_90), (ret_12, 3, 3, .int length_94), (kernel_86, 7, 1, .ref syntax_89), (r0, 13, 5, .ref kernel_86), (ret_12, 3, 11, .null), (ret_12, 3, 5, .ref yb_76), (ret_12, 3, 6, .ref ye_76), (ret_12, 3, 1, .int r_74), (r0, 13, 15, .ref spare_70), (op, 1, 2, .int qz_47), (r0, 13, 4, .ref bo), (r0, 13, 3, .ref ou), (r0, 13, 2, .ref js), (js, 6, 7, .int pv), (js, 6, 8, .int pu), (js, 6, 0, .ref wk), (js, 6, 1, .ref wi), (js, 6, 2, .ref wz), (js, 6, 4, .ref jkf), (js, 6, 5, .ref jks), (r0, 13, 1, .ref fm), (fm, 4, 1, .int fl), (r0, 13, 7, .ref op)]) [0, 1, 2, 3, 4, 5, 6, 7, 8, 9, 10, 11, 12, 13, 14, 15, 16, 17, 18, 19, 20, 21, 22, 23, 24, 25] rfl (M1 := [(yb_76, 171, 40, ca 1, gb_90), (ye_76, 172, 40, ca 1, ge_90), (wk, 140, 1502, ca 1, fk), (wi, 141, 1502, ca 1, fi), (wz, 142, 1502, ca 1, fz), (jkf, 144, 1502, ca 1, fa), (jks, 145, 1502, ca 1, fs)]) [0, 1, 2, 3, 4, 5, 6] rfl (I1 := [(jFl, jLs dC dI ca G_47 3 none)]) [1] rfl
                          clear hh_103
                          have hh_124 := hh_123.addI (jDcc.ie hd_122)
                          clear hh_123
                          have hd_125 := jLs.grow (hh_124.iv 1 rfl) hb_1032 hN_103 (by decide)
                          have hh_126 := hh_124.sub (L1 := [(bo, 2, 1, .int qc_103), (bo, 2, 0, .ref qa_103), (ret_12, 3, 10, .int qk_95), (ret_12, 3, 4, .int qs_90), (ret_12, 3, 3, .int length_94), (kernel_86, 7, 1, .ref syntax_89), (r0, 13, 5, .ref kernel_86), (ret_12, 3, 11, .null), (ret_12, 3, 5, .ref yb_76), (ret_12, 3, 6, .ref ye_76), (ret_12, 3, 1, .int r_74), (r0, 13, 15, .ref spare_70), (op, 1, 2, .int qz_47), (r0, 13, 4, .ref bo), (r0, 13, 3, .ref ou), (r0, 13, 2, .ref js), (js, 6, 7, .int pv), (js, 6, 8, .int pu), (js, 6, 0, .ref wk), (js, 6, 1, .ref wi), (js, 6, 2, .ref wz), (js, 6, 4, .ref jkf), (js, 6, 5, .ref jks), (r0, 13, 1, .ref fm), (fm, 4, 1, .int fl), (r0, 13, 7, .ref op)]) [0, 1, 2, 3, 4, 5, 6, 7, 8, 9, 10, 11, 12, 13, 14, 15, 16, 17, 18, 19, 20, 21, 22, 23, 24, 25] rfl (M1 := [(yb_76, 171, 40, ca 1, gb_90), (ye_76, 172, 40, ca 1, ge_90), (wk, 140, 1502, ca 1, fk), (wi, 141, 1502, ca 1, fi), (wz, 142, 1502, ca 1, fz), (jkf, 144, 1502, ca 1, fa), (jks, 145, 1502, ca 1, fs)]) [0, 1, 2, 3, 4, 5, 6] rfl (I1 := [(jFdo, jDcc dC dI ca G_103 none phn_98)]) [0] rfl
                          clear hh_124
                          have hh_127 := hh_126.addI (jLs.ie hd_125)
                          clear hh_126
                          have hh_128 := hh_127.addIs hbE_103
                          have hd_129 := jOl.trL (hh_100.iv 1 rfl) hh_100.2.2.2.2.1 hbO_103 (by simp)
                          have hh_130 := hh_128.addI (jOl.ie (dC := dC) (dI := dI) (G0 := G0) (k := 2) (rs := [bo, ou]) (H0 := s.heap) (F := [(2, 0), (2, 1)]) (C := RX0) (T := TX0) (N := 2) rfl (by decide) hh_128.2.2.2.2.1 (hd_129))
                          clear hh_128
                          try simp only at hr_104
                          obtain ⟨hr_104_0, hr_104_1, hr_104_2, hr_104_3, hr_104_4⟩ := hr_104
                          have hh_131 := hh_130.wk (zc1 := (m_qa_103 - n_pa) / 16 + (ph + 200 * fl.toInt.toNat - phn_98) / 16) (zs1 := 2 * (m_qa_103 - n_pa) + (ph + 200 * fl.toInt.toNat - phn_98)) (by omega) (by omega)
                          clear hh_130
                          try clear hsz_103 htt_103 hrc_103 hrs_103
                          try clear hb_1034 hb_1035
                          have hsz_132 := hh_131.2.2.2.2.2.1
                          have htt_132 := hh_131.2.2.2.2.2.2.1
                          refine W.room (fun hrc_132 hrs_132 => ?_)
                          refine W.widen (k := LC - s.heap.size) (n := LS - jTot s.heap) (by omega) (by omega) ?_
                          rw [hQ]
                          exact W.vret hx hb hr (fun t ht hW => ⟨⟨(qc_103, qa_103, m_qa_103, phn_98, G_103), rfl, by (try dsimp only); exact ⟨(by first | omega | rfl | assumption | fail), (by first | omega | rfl | assumption | fail), (by first | omega | rfl | assumption | fail), (by first | omega | rfl | assumption | fail), (by first | assumption | fail | omega), (by first | omega | rfl | assumption | fail)⟩, ⟨hh_131.ra (by first | omega | (simp only; omega)) (by first | omega | (simp only; omega)) (M1 := [(bo, 2, 1, .int qc_103), (bo, 2, 0, .ref qa_103)]) [0, 1] rfl ht, hgq_103_0, hNn_103, by rw [ht]; exact hh_131.iv 0 rfl, by rw [ht]; exact hh_131.2.2.2.2.2.2.2.2.sub (L1 := [(jFy, jYb dC dI G_103), (jFl, jLs dC dI ca G_103 3 none), (jFdo, jDcc dC dI ca G_103 none phn_98)]) [1, 2, 3] rfl⟩⟩, by rw [ht]; try exact hh_131.1.1, fun q h9 hq => by rw [ht]; try exact hh_131.1.2.1 q h9 hq⟩) hh_131.1.2.2 dX11_changeDocument_259
                      · skip
                        have c_97' : r_96.toInt = 0 := jb_ne_n (rfl) ((by decide)) c_97
                        first | (have hr_96p_3q := hr_96p_3.resolve_left (by omega); clear hr_96p_3) | (have hr_96p_3q := hr_96p_3.resolve_right (by omega); clear hr_96p_3) | skip
                        refine lv_aload_n hx hb dX11_changeDocument_233 rfl (lv_at hl 0 rfl) ?_
                        refine lv_aload hx hb dX11_changeDocument_234 (lv_at hl 4 rfl) ?_
                        have hsz_133 := hh_95.2.2.2.2.2.1
                        have htt_133 := hh_95.2.2.2.2.2.2.1
                        refine W.room (fun hrc_133 hrs_133 => ?_)
                        refine va_callv (A0 := jA base) (H0 := s.heap) (va_runV (As := [.ref ret_12]) (rest := []) ⟨hx, hb, hml, hown, hts⟩ (uX11_releaseE l dC dI ca base B hB hAp hB3 hB11 hB13 hB101 hB212 G_47 H_95 r0 ret_12 yb_76 ye_76 (pho_76)) (cwV 1 hts (jgV (jWr_43 _ (List.mem_of_getElem? (i := 3) rfl)) (jWr_43 _ (List.mem_of_getElem? (i := 4) rfl)) (jWr_43 _ (List.mem_of_getElem? (i := 5) rfl)) (jWr_1 _ (List.mem_of_getElem? (i := 2) rfl)) (jWr_43 _ (List.mem_of_getElem? (i := 6) rfl))) rfl rfl rfl (by decide +kernel) ⟨by rw [← hR]; exact Nat.le_of_ble_eq_true rfl, by rw [← hR]; exact Nat.le_of_ble_eq_true rfl⟩) ⟨fun a U g mk q => by obtain ⟨q0, q1, q2, qK, q10, q11, q12, q13, q14, q15, q16, q17⟩ := q; exact ⟨q0, q1, q2, jG.calling g mk a qK, (va_K.moved (Vm.Alike.refl U.vm) q10), q11, q12, q13, q14, q15, q16, q17⟩, hh_95.recv (C := RX11) (T := TX11) (N := 19) hB13 rfl (by decide) hg_49 hK, fun U hU hW => ⟨rfl, hU, hh_95.2.1, hG.step hW hU hh_95.1, va_K.moved hW.alike hK2, hg_49, hg_50, hgb_76, hge_76, (hh_95.2.2.1.sub (L1 := [(ret_12, 3, 5, .ref yb_76), (ret_12, 3, 6, .ref ye_76)]) [6, 7] rfl), (hh_95.2.2.2.2.2.2.2.2.sub (L1 := [(jFdo, jDcc dC dI ca G_47 (some ret_12) pho_76)]) [0] rfl), trivial⟩⟩ rfl rfl hl.1 rfl (lv_room (Nat.le_of_ble_eq_true rfl)) dX11_changeDocument_236 ⟨by rw [hRc]; show _ + 0 ≤ _; omega, by rw [hRs]; show _ + 0 ≤ _; omega⟩) hh_95.1 (fun q _ h => h) (fun q h => h) (fun u_133 t_133 H_133 locs_133 ht_133 hvm_133 hr_134 hb_133 hz_133 hk_133 hS_133 => ?_)
                        rw [ht_133] at hb_133
                        obtain ⟨hb_133, hbE_133⟩ := hb_133
                        obtain ⟨hb_1331, hb_1332, hb_1333, hb_1334, hb_1335⟩ := hb_133
                        have hh_133 : jSt (dC, dI) B base G0 G_47 EX11_changeDocument s.heap ((m_qa_47 - n_pa) / 16 + (ph + 200 * fl.toInt.toNat - ph) / 16) (2 * (m_qa_47 - n_pa) + (ph + 200 * fl.toInt.toNat - ph)) [(ret_12, 3, 11, .null), (ret_12, 3, 10, .int qk_95), (ret_12, 3, 4, .int qs_90), (ret_12, 3, 3, .int length_94), (kernel_86, 7, 1, .ref syntax_89), (r0, 13, 5, .ref kernel_86), (ret_12, 3, 5, .ref yb_76), (ret_12, 3, 6, .ref ye_76), (ret_12, 3, 1, .int r_74), (r0, 13, 15, .ref spare_70), (bo, 2, 1, .int qc_47), (op, 1, 2, .int qz_47), (bo, 2, 0, .ref qa_47), (r0, 13, 4, .ref bo), (r0, 13, 3, .ref ou), (r0, 13, 2, .ref js), (js, 6, 7, .int pv), (js, 6, 8, .int pu), (js, 6, 0, .ref wk), (js, 6, 1, .ref wi), (js, 6, 2, .ref wz), (js, 6, 4, .ref jkf), (js, 6, 5, .ref jks), (r0, 13, 1, .ref fm), (fm, 4, 1, .int fl), (r0, 13, 7, .ref op)] [(yb_76, 171, 40, ca 1, gb_90), (ye_76, 172, 40, ca 1, ge_90), (wk, 140, 1502, ca 1, fk), (wi, 141, 1502, ca 1, fi), (wz, 142, 1502, ca 1, fz), (jkf, 144, 1502, ca 1, fa), (jks, 145, 1502, ca 1, fs)] [(jFdo, jDcc dC dI ca G_47 (some ret_12) pho_76), ([(2, 0), (2, 1)], jOl (dC, dI) G0 2 [bo, ou] s.heap), (jFy, jYb dC dI G_47), (jFl, jLs dC dI ca G_47 3 none)] H_133 locs_133 := (((hh_95.call hb_1331 hb_1332 hb_1333 hb_1334 hS_133 rfl (L1 := [(ret_12, 3, 10, .int qk_95), (ret_12, 3, 4, .int qs_90), (ret_12, 3, 3, .int length_94), (kernel_86, 7, 1, .ref syntax_89), (r0, 13, 5, .ref kernel_86), (ret_12, 3, 5, .ref yb_76), (ret_12, 3, 6, .ref ye_76), (ret_12, 3, 1, .int r_74), (r0, 13, 15, .ref spare_70), (bo, 2, 1, .int qc_47), (op, 1, 2, .int qz_47), (bo, 2, 0, .ref qa_47), (r0, 13, 4, .ref bo), (r0, 13, 3, .ref ou), (r0, 13, 2, .ref js), (js, 6, 7, .int pv), (js, 6, 8, .int pu), (js, 6, 0, .ref wk), (js, 6, 1, .ref wi), (js, 6, 2, .ref wz), (js, 6, 4, .ref jkf), (js, 6, 5, .ref jks), (r0, 13, 1, .ref fm), (fm, 4, 1, .int fl), (r0, 13, 7, .ref op)]) [0, 1, 2, 3, 4, 6, 7, 8, 9, 10, 11, 12, 13, 14, 15, 16, 17, 18, 19, 20, 21, 22, 23, 24, 25] rfl rfl (M1 := [(yb_76, 171, 40, ca 1, gb_90), (ye_76, 172, 40, ca 1, ge_90), (wk, 140, 1502, ca 1, fk), (wi, 141, 1502, ca 1, fi), (wz, 142, 1502, ca 1, fz), (jkf, 144, 1502, ca 1, fa), (jks, 145, 1502, ca 1, fs)]) [0, 1, 2, 3, 4, 5, 6] rfl rfl (I1 := [([(2, 0), (2, 1)], jOl (dC, dI) G0 2 [bo, ou] s.heap), (jFy, jYb dC dI G_47), (jFl, jLs dC dI ca G_47 3 none)]) [1, 2, 3] rfl rfl).more hb_1335)).addIs hbE_133
                        clear hh_95 ht_133 hvm_133 hz_133 hk_133 hS_133 hb_1331 hb_1332 hb_1333 hb_1334 hb_1335
                        clear  hbE_133
                        have hjg := jEd.ge hr_91_2 (k := qk_95.toInt) (by omega)
                        have hjh := jSn.ge hr_91_2 (k := qk_95.toInt) (by omega)
                        obtain ⟨phn_135, hphn_135⟩ : ∃ q : Nat, q = pho_76 + (575 * (qs_90.toInt - qk_95.toInt) + (1500 - jEd ge_90 qk_95.toInt)).toNat := ⟨_, rfl⟩
                        have hF_135 := jDcc.full (ph1 := phn_135) (hh_133.iv 0 rfl) hg_50 (hh_133.at 6 rfl) (hh_133.at 7 rfl) ⟨(hh_133.2.2.1.sub (L1 := [(ret_12, 3, 4, .int qs_90), (ret_12, 3, 10, .int qk_95), (ret_12, 3, 11, .null)]) [2, 1, 0] rfl), (hh_133.2.2.2.2.2.2.2.1.sub (L1 := [(yb_76, 171, 40, ca 1, gb_90), (ye_76, 172, 40, ca 1, ge_90)]) [0, 1] rfl), (hr_91_2.mono (by omega)), by omega⟩ (w := (575 * (qs_90.toInt - qk_95.toInt) + (1500 - jEd ge_90 qk_95.toInt)).toNat) (fun _ => jPo.mkN (by omega)) (by omega) (fun _ => by omega)
                        have hh_136 := hh_133.sub (L1 := [(ret_12, 3, 11, .null), (ret_12, 3, 10, .int qk_95), (ret_12, 3, 4, .int qs_90), (ret_12, 3, 3, .int length_94), (kernel_86, 7, 1, .ref syntax_89), (r0, 13, 5, .ref kernel_86), (ret_12, 3, 5, .ref yb_76), (ret_12, 3, 6, .ref ye_76), (ret_12, 3, 1, .int r_74), (r0, 13, 15, .ref spare_70), (bo, 2, 1, .int qc_47), (op, 1, 2, .int qz_47), (bo, 2, 0, .ref qa_47), (r0, 13, 4, .ref bo), (r0, 13, 3, .ref ou), (r0, 13, 2, .ref js), (js, 6, 7, .int pv), (js, 6, 8, .int pu), (js, 6, 0, .ref wk), (js, 6, 1, .ref wi), (js, 6, 2, .ref wz), (js, 6, 4, .ref jkf), (js, 6, 5, .ref jks), (r0, 13, 1, .ref fm), (fm, 4, 1, .int fl), (r0, 13, 7, .ref op)]) [0, 1, 2, 3, 4, 5, 6, 7, 8, 9, 10, 11, 12, 13, 14, 15, 16, 17, 18, 19, 20, 21, 22, 23, 24, 25] rfl (M1 := [(yb_76, 171, 40, ca 1, gb_90), (ye_76, 172, 40, ca 1, ge_90), (wk, 140, 1502, ca 1, fk), (wi, 141, 1502, ca 1, fi), (wz, 142, 1502, ca 1, fz), (jkf, 144, 1502, ca 1, fa), (jks, 145, 1502, ca 1, fs)]) [0, 1, 2, 3, 4, 5, 6] rfl (I1 := [([(2, 0), (2, 1)], jOl (dC, dI) G0 2 [bo, ou] s.heap), (jFy, jYb dC dI G_47), (jFl, jLs dC dI ca G_47 3 none)]) [1, 2, 3] rfl
                        clear hh_133
                        have hh_137 := hh_136.addI (jDcc.ie hF_135)
                        clear hh_136
                        refine lv_aload hx hb dX11_changeDocument_239 (lv_at hl 4 rfl) ?_
                        refine j7_read hx hb hown hK (C := RX1) (T := TX1) (N := 17) rfl hly_3_10 hlk_171 (hh_137.at 1 rfl) dX11_changeDocument_241 ?_
                        refine lv_aload hx hb dX11_changeDocument_244 (lv_at hl 4 rfl) ?_
                        refine j7_read hx hb hown hK (C := RX1) (T := TX1) (N := 17) rfl hly_3_4 hlk_168 (hh_137.at 2 rfl) dX11_changeDocument_246 ?_
                        refine lv_icmp_ne (tgt := 259) hx hb dX11_changeDocument_249 (by decide) (fun c_138 => ?_) (fun c_138 => ?_)
                        · skip
                          have c_138' : qk_95.toInt ≠ qs_90.toInt := jb_ne (rfl) (rfl) c_138
                          have hsz_139 := hh_137.2.2.2.2.2.1
                          have htt_139 := hh_137.2.2.2.2.2.2.1
                          refine W.room (fun hrc_139 hrs_139 => ?_)
                          refine W.widen (k := LC - s.heap.size) (n := LS - jTot s.heap) (by omega) (by omega) ?_
                          rw [hQ]
                          exact W.vret hx hb hr (fun t ht hW => ⟨⟨(qc_47, qa_47, m_qa_47, phn_135, G_47), rfl, by (try dsimp only); exact ⟨(by first | omega | rfl | assumption | fail), (by first | omega | rfl | assumption | fail), (by first | omega | rfl | assumption | fail), (by first | omega | rfl | assumption | fail), (by first | assumption | fail | omega), (by first | omega | rfl | assumption | fail)⟩, ⟨hh_137.ra (by first | omega | (simp only; omega)) (by first | omega | (simp only; omega)) (M1 := [(bo, 2, 1, .int qc_47), (bo, 2, 0, .ref qa_47)]) [10, 12] rfl ht, hgq_47_0, hNn_47, by rw [ht]; exact hh_137.iv 1 rfl, by rw [ht]; exact hh_137.2.2.2.2.2.2.2.2.sub (L1 := [(jFy, jYb dC dI G_47), (jFl, jLs dC dI ca G_47 3 none), (jFdo, jDcc dC dI ca G_47 none phn_135)]) [2, 3, 0] rfl⟩⟩, by rw [ht]; try exact hh_137.1.1, fun q h9 hq => by rw [ht]; try exact hh_137.1.2.1 q h9 hq⟩) hh_137.1.2.2 dX11_changeDocument_259
                        · skip
                          have c_138' : qk_95.toInt = qs_90.toInt := jb_ne_n (rfl) (rfl) c_138
                          first | (have hr_96p_3q := hr_96p_3.resolve_left (by omega); clear hr_96p_3) | (have hr_96p_3q := hr_96p_3.resolve_right (by omega); clear hr_96p_3) | skip
                          refine lv_aload_n hx hb dX11_changeDocument_252 rfl (lv_at hl 0 rfl) ?_
                          refine lv_aload hx hb dX11_changeDocument_253 (lv_at hl 4 rfl) ?_
                          refine lv_iconst (v := 1) hx hb dX11_changeDocument_255 (by decide) ?_
                          have hsz_140 := hh_137.2.2.2.2.2.1
                          have htt_140 := hh_137.2.2.2.2.2.2.1
                          refine W.room (fun hrc_140 hrs_140 => ?_)
                          refine va_callv (A0 := jA base) (H0 := s.heap) (va_runV (As := [.ref ret_12, .int 1]) (rest := []) ⟨hx, hb, hml, hown, hts⟩ (uX11_publish l dC dI ca base B hB hAp hB2 hB3 hB4 hB11 hB13 hB101 hB171 hB172 hB196 hB210 G_47 H_133 r0 ret_12 1 bo qc_47 qa_47 m_qa_47 ou LC LS) (cwV 2 hts (jgV (jWr_39 _ (List.mem_of_getElem? (i := 19) rfl)) (jWr_39 _ (List.mem_of_getElem? (i := 20) rfl)) (jWr_39 _ (List.mem_of_getElem? (i := 21) rfl)) (jWr_1 _ (List.mem_of_getElem? (i := 2) rfl)) (jWr_39 _ (List.mem_of_getElem? (i := 22) rfl))) rfl rfl rfl (by decide +kernel) ⟨by rw [← hR]; exact Nat.le_of_ble_eq_true rfl, by rw [← hR]; exact Nat.le_of_ble_eq_true rfl⟩) ⟨fun a U g mk q => by obtain ⟨q0, q1, q2, qK, q10, q11, q12, q13, q14, q15, q16, q17, q18, q19⟩ := q; exact ⟨q0, q1, q2, jG.calling g mk a qK, (va_K.moved (Vm.Alike.refl U.vm) q10), q11, q12, q13, q14, q15, q16, q17, q18, q19⟩, hh_137.recv (C := RX11) (T := TX11) (N := 19) hB13 rfl (by decide) hg_49 hK, fun U hU hW => ⟨rfl, hU, hh_137.2.1, hG.step hW hU hh_137.1, va_K.moved hW.alike hK2, hg_50, hg_49, (Or.inr rfl), hg_51, hgq_47_0, hg_52, (hh_137.2.2.1.sub (L1 := [(r0, 13, 4, .ref bo), (bo, 2, 1, .int qc_47), (bo, 2, 0, .ref qa_47), (r0, 13, 3, .ref ou)]) [13, 10, 12, 14] rfl), (hh_137.2.2.2.2.2.2.2.2.sub (L1 := [(jFy, jYb dC dI G_47)]) [2] rfl), (by omega), (by omega), ⟨(by first | omega | rfl | assumption | fail), (by first | omega | rfl | assumption | fail), (by first | omega | rfl | assumption | fail), (by first | omega | rfl | assumption | fail), (by first | assumption | fail | omega)⟩⟩⟩ rfl rfl hl.1 rfl (lv_room (Nat.le_of_ble_eq_true rfl)) dX11_changeDocument_256 ⟨by rw [hRc]; omega, by rw [hRs]; omega⟩) hh_137.1 (fun q _ h => h) (fun q h => h) (fun u_140 t_140 H_140 locs_140 ht_140 hvm_140 hr_141 hb_140 hz_140 hk_140 hS_140 => ?_)
                          obtain ⟨qc_140, qa_140, m_qa_140, G_140⟩ := u_140
                          rw [ht_140] at hb_140
                          simp only at hb_140
                          obtain ⟨⟨hb_1401, hb_1402, hb_1403, hb_1404, hb_1405, hb_1406⟩, hgq_140_0, hN_140, hbO_140, hbE_140⟩ := hb_140
                          have hh_140 : jSt (dC, dI) B base G0 G_140 EX11_changeDocument s.heap (((m_qa_47 - n_pa) / 16 + (ph + 200 * fl.toInt.toNat - ph) / 16) + ((m_qa_140 - m_qa_47) / 16)) ((2 * (m_qa_47 - n_pa) + (ph + 200 * fl.toInt.toNat - ph)) + (2 * (m_qa_140 - m_qa_47))) [(bo, 2, 1, .int qc_140), (bo, 2, 0, .ref qa_140), (ret_12, 3, 11, .null), (ret_12, 3, 10, .int qk_95), (ret_12, 3, 4, .int qs_90), (ret_12, 3, 3, .int length_94), (kernel_86, 7, 1, .ref syntax_89), (r0, 13, 5, .ref kernel_86), (ret_12, 3, 5, .ref yb_76), (ret_12, 3, 6, .ref ye_76), (ret_12, 3, 1, .int r_74), (r0, 13, 15, .ref spare_70), (op, 1, 2, .int qz_47), (r0, 13, 4, .ref bo), (r0, 13, 3, .ref ou), (r0, 13, 2, .ref js), (js, 6, 7, .int pv), (js, 6, 8, .int pu), (js, 6, 0, .ref wk), (js, 6, 1, .ref wi), (js, 6, 2, .ref wz), (js, 6, 4, .ref jkf), (js, 6, 5, .ref jks), (r0, 13, 1, .ref fm), (fm, 4, 1, .int fl), (r0, 13, 7, .ref op)] [(yb_76, 171, 40, ca 1, gb_90), (ye_76, 172, 40, ca 1, ge_90), (wk, 140, 1502, ca 1, fk), (wi, 141, 1502, ca 1, fi), (wz, 142, 1502, ca 1, fz), (jkf, 144, 1502, ca 1, fa), (jks, 145, 1502, ca 1, fs)] [(jFdo, jDcc dC dI ca G_47 none phn_135), (jFl, jLs dC dI ca G_47 3 none)] H_140 locs_140 := (hh_137.callG hb_1401 hb_1402 hb_1403 hb_1404 hb_1405 hS_140 rfl (L1 := [(ret_12, 3, 11, .null), (ret_12, 3, 10, .int qk_95), (ret_12, 3, 4, .int qs_90), (ret_12, 3, 3, .int length_94), (kernel_86, 7, 1, .ref syntax_89), (r0, 13, 5, .ref kernel_86), (ret_12, 3, 5, .ref yb_76), (ret_12, 3, 6, .ref ye_76), (ret_12, 3, 1, .int r_74), (r0, 13, 15, .ref spare_70), (op, 1, 2, .int qz_47), (r0, 13, 4, .ref bo), (r0, 13, 3, .ref ou), (r0, 13, 2, .ref js), (js, 6, 7, .int pv), (js, 6, 8, .int pu), (js, 6, 0, .ref wk), (js, 6, 1, .ref wi), (js, 6, 2, .ref wz), (js, 6, 4, .ref jkf), (js, 6, 5, .ref jks), (r0, 13, 1, .ref fm), (fm, 4, 1, .int fl), (r0, 13, 7, .ref op)]) [0, 1, 2, 3, 4, 5, 6, 7, 8, 9, 11, 13, 14, 15, 16, 17, 18, 19, 20, 21, 22, 23, 24, 25] rfl rfl (M1 := [(yb_76, 171, 40, ca 1, gb_90), (ye_76, 172, 40, ca 1, ge_90), (wk, 140, 1502, ca 1, fk), (wi, 141, 1502, ca 1, fi), (wz, 142, 1502, ca 1, fz), (jkf, 144, 1502, ca 1, fa), (jks, 145, 1502, ca 1, fs)]) [0, 1, 2, 3, 4, 5, 6] rfl rfl (I1 := [(jFdo, jDcc dC dI ca G_47 none phn_135), (jFl, jLs dC dI ca G_47 3 none)]) [0, 3] rfl rfl).more hb_1406
                          have hNn_140 : (jNk [0, 1, 2, 3, 4, 5, 6, 7, 8, 9, 10, 11, 12, 13, 14, 15, 16]) G0 G_140 := (hNn_47).tr hN_140
                          have hg_142 := hb_1402 _ _ hg_49
                          have hg_143 := hb_1402 _ _ hg_50
                          have hg_144 := hb_1402 _ _ hg_syntax_89
                          have hg_145 := hb_1402 _ _ hg_kernel_86
                          have hg_146 := hb_1402 _ _ hgb_76
                          have hg_147 := hb_1402 _ _ hge_76
                          have hg_148 := hb_1402 _ _ hg_spare_70
                          have hg_149 := hb_1402 _ _ hg_51
                          have hg_150 := hb_1402 _ _ hg_52
                          have hg_151 := hb_1402 _ _ hg_53
                          have hg_152 := hb_1402 _ _ hg_54
                          have hg_153 := hb_1402 _ _ hg_55
                          have hg_154 := hb_1402 _ _ hg_56
                          have hg_155 := hb_1402 _ _ hg_57
                          have hg_156 := hb_1402 _ _ hg_58
                          have hg_157 := hb_1402 _ _ hg_59
                          have hg_158 := hb_1402 _ _ hg_60
                          have hd_159 := jDcc.grow (hh_140.iv 0 rfl) hb_1402 hN_140 (by decide)
                          have hh_160 := hh_140.sub (L1 := [(bo, 2, 1, .int qc_140), (bo, 2, 0, .ref qa_140), (ret_12, 3, 11, .null), (ret_12, 3, 10, .int qk_95), (ret_12, 3, 4, .int qs_90), (ret_12, 3, 3, .int length_94), (kernel_86, 7, 1, .ref syntax_89), (r0, 13, 5, .ref kernel_86), (ret_12, 3, 5, .ref yb_76), (ret_12, 3, 6, .ref ye_76), (ret_12, 3, 1, .int r_74), (r0, 13, 15, .ref spare_70), (op, 1, 2, .int qz_47), (r0, 13, 4, .ref bo), (r0, 13, 3, .ref ou), (r0, 13, 2, .ref js), (js, 6, 7, .int pv), (js, 6, 8, .int pu), (js, 6, 0, .ref wk), (js, 6, 1, .ref wi), (js, 6, 2, .ref wz), (js, 6, 4, .ref jkf), (js, 6, 5, .ref jks), (r0, 13, 1, .ref fm), (fm, 4, 1, .int fl), (r0, 13, 7, .ref op)]) [0, 1, 2, 3, 4, 5, 6, 7, 8, 9, 10, 11, 12, 13, 14, 15, 16, 17, 18, 19, 20, 21, 22, 23, 24, 25] rfl (M1 := [(yb_76, 171, 40, ca 1, gb_90), (ye_76, 172, 40, ca 1, ge_90), (wk, 140, 1502, ca 1, fk), (wi, 141, 1502, ca 1, fi), (wz, 142, 1502, ca 1, fz), (jkf, 144, 1502, ca 1, fa), (jks, 145, 1502, ca 1, fs)]) [0, 1, 2, 3, 4, 5, 6] rfl (I1 := [(jFl, jLs dC dI ca G_47 3 none)]) [1] rfl
                          clear hh_140
                          have hh_161 := hh_160.addI (jDcc.ie hd_159)
                          clear hh_160
                          have hd_162 := jLs.grow (hh_161.iv 1 rfl) hb_1402 hN_140 (by decide)
                          have hh_163 := hh_161.sub (L1 := [(bo, 2, 1, .int qc_140), (bo, 2, 0, .ref qa_140), (ret_12, 3, 11, .null), (ret_12, 3, 10, .int qk_95), (ret_12, 3, 4, .int qs_90), (ret_12, 3, 3, .int length_94), (kernel_86, 7, 1, .ref syntax_89), (r0, 13, 5, .ref kernel_86), (ret_12, 3, 5, .ref yb_76), (ret_12, 3, 6, .ref ye_76), (ret_12, 3, 1, .int r_74), (r0, 13, 15, .ref spare_70), (op, 1, 2, .int qz_47), (r0, 13, 4, .ref bo), (r0, 13, 3, .ref ou), (r0, 13, 2, .ref js), (js, 6, 7, .int pv), (js, 6, 8, .int pu), (js, 6, 0, .ref wk), (js, 6, 1, .ref wi), (js, 6, 2, .ref wz), (js, 6, 4, .ref jkf), (js, 6, 5, .ref jks), (r0, 13, 1, .ref fm), (fm, 4, 1, .int fl), (r0, 13, 7, .ref op)]) [0, 1, 2, 3, 4, 5, 6, 7, 8, 9, 10, 11, 12, 13, 14, 15, 16, 17, 18, 19, 20, 21, 22, 23, 24, 25] rfl (M1 := [(yb_76, 171, 40, ca 1, gb_90), (ye_76, 172, 40, ca 1, ge_90), (wk, 140, 1502, ca 1, fk), (wi, 141, 1502, ca 1, fi), (wz, 142, 1502, ca 1, fz), (jkf, 144, 1502, ca 1, fa), (jks, 145, 1502, ca 1, fs)]) [0, 1, 2, 3, 4, 5, 6] rfl (I1 := [(jFdo, jDcc dC dI ca G_140 none phn_135)]) [0] rfl
                          clear hh_161
                          have hh_164 := hh_163.addI (jLs.ie hd_162)
                          clear hh_163
                          have hh_165 := hh_164.addIs hbE_140
                          have hd_166 := jOl.trL (hh_137.iv 1 rfl) hh_137.2.2.2.2.1 hbO_140 (by simp)
                          have hh_167 := hh_165.addI (jOl.ie (dC := dC) (dI := dI) (G0 := G0) (k := 2) (rs := [bo, ou]) (H0 := s.heap) (F := [(2, 0), (2, 1)]) (C := RX0) (T := TX0) (N := 2) rfl (by decide) hh_165.2.2.2.2.1 (hd_166))
                          clear hh_165
                          try simp only at hr_141
                          obtain ⟨hr_141_0, hr_141_1, hr_141_2, hr_141_3, hr_141_4⟩ := hr_141
                          have hh_168 := hh_167.wk (zc1 := (m_qa_140 - n_pa) / 16 + (ph + 200 * fl.toInt.toNat - phn_135) / 16) (zs1 := 2 * (m_qa_140 - n_pa) + (ph + 200 * fl.toInt.toNat - phn_135)) (by omega) (by omega)
                          clear hh_167
                          try clear hsz_140 htt_140 hrc_140 hrs_140
                          try clear hb_1404 hb_1405
                          have hsz_169 := hh_168.2.2.2.2.2.1
                          have htt_169 := hh_168.2.2.2.2.2.2.1
                          refine W.room (fun hrc_169 hrs_169 => ?_)
                          refine W.widen (k := LC - s.heap.size) (n := LS - jTot s.heap) (by omega) (by omega) ?_
                          rw [hQ]
                          exact W.vret hx hb hr (fun t ht hW => ⟨⟨(qc_140, qa_140, m_qa_140, phn_135, G_140), rfl, by (try dsimp only); exact ⟨(by first | omega | rfl | assumption | fail), (by first | omega | rfl | assumption | fail), (by first | omega | rfl | assumption | fail), (by first | omega | rfl | assumption | fail), (by first | assumption | fail | omega), (by first | omega | rfl | assumption | fail)⟩, ⟨hh_168.ra (by first | omega | (simp only; omega)) (by first | omega | (simp only; omega)) (M1 := [(bo, 2, 1, .int qc_140), (bo, 2, 0, .ref qa_140)]) [0, 1] rfl ht, hgq_140_0, hNn_140, by rw [ht]; exact hh_168.iv 0 rfl, by rw [ht]; exact hh_168.2.2.2.2.2.2.2.2.sub (L1 := [(jFy, jYb dC dI G_140), (jFl, jLs dC dI ca G_140 3 none), (jFdo, jDcc dC dI ca G_140 none phn_135)]) [1, 2, 3] rfl⟩⟩, by rw [ht]; try exact hh_168.1.1, fun q h9 hq => by rw [ht]; try exact hh_168.1.2.1 q h9 hq⟩) hh_168.1.2.2 dX11_changeDocument_259
                    · have hpo_76 := jPo.rf (hpq_76 rfl)
                      have hnx_76 := jEd.nx hsn_76 (k := pk_76.toInt) (by omega) (by omega)
                      refine lv_aload hx hb dX11_changeDocument_213 (lv_at hl 4 rfl) ?_
                      refine lv_aload_n hx hb dX11_changeDocument_215 rfl (lv_at hl 0 rfl) ?_
                      obtain ⟨v_171, hv_171, hh_172⟩ := hh_76.pin (C := RX11) (T := TX11) (N := 19) hB13 rfl (by decide) hg_49 (i := 5) (by decide) rfl
                      clear hh_76
                      obtain ⟨kernel_173, rfl, hg_kernel_173⟩ := hv_171
                      refine j7_read hx hb hown hK (C := RX11) (T := TX11) (N := 19) rfl hly_13_5 hlk_41 (hh_172.at 0 rfl) dX11_changeDocument_216 ?_
                      obtain ⟨v_174, hv_174, hh_175⟩ := hh_172.pin (C := RX5) (T := TX5) (N := 11) hB7 rfl (by decide) hg_kernel_173 (i := 1) (by decide) rfl
                      clear hh_172
                      obtain ⟨syntax_176, rfl, hg_syntax_176⟩ := hv_174
                      refine j7_read hx hb hown hK (C := RX5) (T := TX5) (N := 11) rfl hly_7_1 hlk_203 (hh_175.at 0 rfl) dX11_changeDocument_219 ?_
                      obtain ⟨v_179, hv_179, hh_180⟩ := hh_175.pin (C := RX1) (T := TX1) (N := 17) hB3 rfl (by decide) hg_50 (i := 3) (by decide) rfl
                      obtain ⟨length_181, rfl, hlolength_181, hhilength_181⟩ := hv_179
                      have hsz_177 := hh_180.2.2.2.2.2.1
                      have htt_177 := hh_180.2.2.2.2.2.2.1
                      refine W.room (fun hrc_177 hrs_177 => ?_)
                      refine va_callv (A0 := jA base) (H0 := s.heap) (va_runV (As := [.ref syntax_176]) (rest := []) ⟨hx, hb, hml, hown, hts⟩ (uX1_partE l dC dI ca base B hB hAp hB3 hB8 hB12 hB101 hB102 hB132 hB133 hB171 hB172 hB293 G_47 H_75 ret_12 syntax_176 0 length_181 yb_76 ye_76 (pho_76) fb_76 fe_76) (cwV 1 hts (jgV (jWr_36 _ (List.mem_of_getElem? (i := 2) rfl)) (jWr_36 _ (List.mem_of_getElem? (i := 3) rfl)) (jWr_36 _ (List.mem_of_getElem? (i := 4) rfl)) (jWr_2 _ (List.mem_of_getElem? (i := 21) rfl)) (jWr_36 _ (List.mem_of_getElem? (i := 5) rfl))) rfl rfl rfl (by decide +kernel) ⟨by rw [← hR]; exact Nat.le_of_ble_eq_true rfl, by rw [← hR]; exact Nat.le_of_ble_eq_true rfl⟩) ⟨fun a U g mk q => by obtain ⟨q0, q1, q2, qK, q10, q11, q12, q13, q14, q15, q16, q17⟩ := q; exact ⟨q0, q1, q2, jG.calling g mk a qK, q10, q11, q12, q13, q14, q15, q16, q17⟩, hh_180.recv (C := RX1) (T := TX1) (N := 17) hB3 rfl (by decide) hg_50 hK, fun U hU hW => ⟨rfl, hU, hh_180.2.1, hG.step hW hU hh_180.1, hg_50, hg_syntax_176, hgb_76, hge_76, (hh_180.2.2.1.sub (L1 := [(ret_12, 3, 3, .int length_181), (ret_12, 3, 5, .ref yb_76), (ret_12, 3, 6, .ref ye_76)]) [0, 6, 7] rfl), (hh_180.2.2.2.2.2.2.2.1.sub (L1 := [(yb_76, 171, 40, ca 1, fb_76), (ye_76, 172, 40, ca 1, fe_76)]) [0, 1] rfl), (hh_180.2.2.2.2.2.2.2.2.sub (L1 := [(jFdo, jDcc dC dI ca G_47 (some ret_12) pho_76)]) [0] rfl), ⟨(by first | omega | rfl | assumption | fail), (by first | omega | rfl | assumption | fail)⟩⟩⟩ rfl rfl hl.1 rfl (lv_room (Nat.le_of_ble_eq_true rfl)) dX11_changeDocument_222 ⟨by rw [hRc]; show _ + 0 ≤ _; omega, by rw [hRs]; show _ + 0 ≤ _; omega⟩) hh_180.1 (fun q _ h => h) (fun q h => h) (fun u_177 t_177 H_177 locs_177 ht_177 hvm_177 hr_178 hb_177 hz_177 hk_177 hS_177 => ?_)
                      obtain ⟨qs_177, gb_177, ge_177⟩ := u_177
                      rw [ht_177] at hb_177
                      obtain ⟨hb_177, hbE_177⟩ := hb_177
                      obtain ⟨hb_177, hbO_177⟩ := hb_177
                      obtain ⟨⟨hb_1771, hb_1772, hb_1773, hb_1774, hb_1775⟩, hb_1776⟩ := hb_177
                      have hh_177 : jSt (dC, dI) B base G0 G_47 EX11_changeDocument s.heap ((m_qa_47 - n_pa) / 16 + (ph + 200 * fl.toInt.toNat - ph) / 16) (2 * (m_qa_47 - n_pa) + (ph + 200 * fl.toInt.toNat - ph)) [(ret_12, 3, 4, .int qs_177), (ret_12, 3, 3, .int length_181), (kernel_173, 7, 1, .ref syntax_176), (r0, 13, 5, .ref kernel_173), (ret_12, 3, 11, .ref chk_82), (ret_12, 3, 10, .int pk_76), (ret_12, 3, 5, .ref yb_76), (ret_12, 3, 6, .ref ye_76), (ret_12, 3, 1, .int r_74), (r0, 13, 15, .ref spare_70), (bo, 2, 1, .int qc_47), (op, 1, 2, .int qz_47), (bo, 2, 0, .ref qa_47), (r0, 13, 4, .ref bo), (r0, 13, 3, .ref ou), (r0, 13, 2, .ref js), (js, 6, 7, .int pv), (js, 6, 8, .int pu), (js, 6, 0, .ref wk), (js, 6, 1, .ref wi), (js, 6, 2, .ref wz), (js, 6, 4, .ref jkf), (js, 6, 5, .ref jks), (r0, 13, 1, .ref fm), (fm, 4, 1, .int fl), (r0, 13, 7, .ref op)] [(yb_76, 171, 40, ca 1, gb_177), (ye_76, 172, 40, ca 1, ge_177), (wk, 140, 1502, ca 1, fk), (wi, 141, 1502, ca 1, fi), (wz, 142, 1502, ca 1, fz), (jkf, 144, 1502, ca 1, fa), (jks, 145, 1502, ca 1, fs)] [(jFdo, jDcc dC dI ca G_47 (some ret_12) pho_76), ([(2, 0), (2, 1)], jOl (dC, dI) G0 2 [bo, ou] s.heap), (jFy, jYb dC dI G_47), (jFl, jLs dC dI ca G_47 3 none)] H_177 locs_177 := (((hh_180.call hb_1771 hb_1772 hb_1773 hb_1774 hS_177 rfl (L1 := [(ret_12, 3, 3, .int length_181), (kernel_173, 7, 1, .ref syntax_176), (r0, 13, 5, .ref kernel_173), (ret_12, 3, 11, .ref chk_82), (ret_12, 3, 10, .int pk_76), (ret_12, 3, 5, .ref yb_76), (ret_12, 3, 6, .ref ye_76), (ret_12, 3, 1, .int r_74), (r0, 13, 15, .ref spare_70), (bo, 2, 1, .int qc_47), (op, 1, 2, .int qz_47), (bo, 2, 0, .ref qa_47), (r0, 13, 4, .ref bo), (r0, 13, 3, .ref ou), (r0, 13, 2, .ref js), (js, 6, 7, .int pv), (js, 6, 8, .int pu), (js, 6, 0, .ref wk), (js, 6, 1, .ref wi), (js, 6, 2, .ref wz), (js, 6, 4, .ref jkf), (js, 6, 5, .ref jks), (r0, 13, 1, .ref fm), (fm, 4, 1, .int fl), (r0, 13, 7, .ref op)]) [0, 1, 2, 3, 5, 6, 7, 8, 9, 10, 11, 12, 13, 14, 15, 16, 17, 18, 19, 20, 21, 22, 23, 24, 25] rfl rfl (M1 := [(wk, 140, 1502, ca 1, fk), (wi, 141, 1502, ca 1, fi), (wz, 142, 1502, ca 1, fz), (jkf, 144, 1502, ca 1, fa), (jks, 145, 1502, ca 1, fs)]) [2, 3, 4, 5, 6] rfl rfl (I1 := [([(2, 0), (2, 1)], jOl (dC, dI) G0 2 [bo, ou] s.heap), (jFy, jYb dC dI G_47), (jFl, jLs dC dI ca G_47 3 none)]) [1, 2, 3] rfl rfl).more hb_1775).moreM hb_1776).addIs hbE_177
                      clear hh_180 ht_177 hvm_177 hz_177 hk_177 hS_177 hb_1771 hb_1772 hb_1773 hb_1774 hb_1775
                      clear hb_1776
                      clear  hbE_177
                      try simp only at hr_178
                      obtain ⟨hr_178_0, hr_178_1, hr_178_2⟩ := hr_178
                      refine lv_aload hx hb dX11_changeDocument_225 (lv_at hl 4 rfl) ?_
                      have hsz_182 := hh_177.2.2.2.2.2.1
                      have htt_182 := hh_177.2.2.2.2.2.2.1
                      refine W.room (fun hrc_182 hrs_182 => ?_)
                      refine va_calli (A0 := jA base) (H0 := s.heap) (va_runV (As := []) (rest := []) ⟨hx, hb, hml, hown, hts⟩ (uX1_keepCheckedE l dC dI ca base B hB hAp hB3 hB11 hB101 hB171 hB172 hB210 G_47 H_177 ret_12 yb_76 ye_76 qs_177 pk_76 (pho_76)) (cwV 0 hts (jgV (jWr_42 _ (List.mem_of_getElem? (i := 16) rfl)) (jWr_42 _ (List.mem_of_getElem? (i := 17) rfl)) (jWr_42 _ (List.mem_of_getElem? (i := 18) rfl)) (jWr_2 _ (List.mem_of_getElem? (i := 21) rfl)) (jWr_42 _ (List.mem_of_getElem? (i := 19) rfl))) rfl rfl rfl (by decide +kernel) ⟨by rw [← hR]; exact Nat.le_of_ble_eq_true rfl, by rw [← hR]; exact Nat.le_of_ble_eq_true rfl⟩) ⟨fun a U g mk q => by obtain ⟨q0, q1, q2, qK, q10, q11, q12, q13, q14, q15, q16⟩ := q; exact ⟨q0, q1, q2, jG.calling g mk a qK, (va_K.moved (Vm.Alike.refl U.vm) q10), q11, q12, q13, q14, q15, q16⟩, hh_177.recv (C := RX1) (T := TX1) (N := 17) hB3 rfl (by decide) hg_50 hK, fun U hU hW => ⟨rfl, hU, hh_177.2.1, hG.step hW hU hh_177.1, va_K.moved hW.alike hK2, hg_50, hgb_76, hge_76, (hh_177.2.2.1.sub (L1 := [(ret_12, 3, 5, .ref yb_76), (ret_12, 3, 6, .ref ye_76), (ret_12, 3, 4, .int qs_177), (ret_12, 3, 10, .int pk_76)]) [6, 7, 0, 5] rfl), (hh_177.2.2.2.2.2.2.2.2.sub (L1 := [(jFdo, jDcc dC dI ca G_47 (some ret_12) pho_76)]) [0] rfl), ⟨(by first | omega | rfl | assumption | fail), (by first | omega | rfl | assumption | fail), (by first | omega | rfl | assumption | fail), (by first | omega | rfl | assumption | fail)⟩⟩⟩ rfl rfl hl.1 rfl (lv_room (Nat.le_of_ble_eq_true rfl)) dX11_changeDocument_227 ⟨by rw [hRc]; show _ + 0 ≤ _; omega, by rw [hRs]; show _ + 0 ≤ _; omega⟩) hh_177.1 (fun q _ h => h) (fun q h => h) (fun r_183 u_182 t_182 H_182 locs_182 ht_182 hvm_182 hr_183 hb_182 hz_182 hk_182 hS_182 => ?_)
                      obtain ⟨qk_182, rfl⟩ : ∃ z, z = u_182 := ⟨_, rfl⟩
                      rw [ht_182] at hb_182
                      obtain ⟨hb_182, hbE_182⟩ := hb_182
                      obtain ⟨hb_182, hbO_182⟩ := hb_182
                      obtain ⟨hb_1821, hb_1822, hb_1823, hb_1824, hb_1825⟩ := hb_182
                      have hh_182 : jSt (dC, dI) B base G0 G_47 EX11_changeDocument s.heap ((m_qa_47 - n_pa) / 16 + (ph + 200 * fl.toInt.toNat - ph) / 16) (2 * (m_qa_47 - n_pa) + (ph + 200 * fl.toInt.toNat - ph)) [(ret_12, 3, 10, .int qk_182), (ret_12, 3, 4, .int qs_177), (ret_12, 3, 3, .int length_181), (kernel_173, 7, 1, .ref syntax_176), (r0, 13, 5, .ref kernel_173), (ret_12, 3, 11, .ref chk_82), (ret_12, 3, 5, .ref yb_76), (ret_12, 3, 6, .ref ye_76), (ret_12, 3, 1, .int r_74), (r0, 13, 15, .ref spare_70), (bo, 2, 1, .int qc_47), (op, 1, 2, .int qz_47), (bo, 2, 0, .ref qa_47), (r0, 13, 4, .ref bo), (r0, 13, 3, .ref ou), (r0, 13, 2, .ref js), (js, 6, 7, .int pv), (js, 6, 8, .int pu), (js, 6, 0, .ref wk), (js, 6, 1, .ref wi), (js, 6, 2, .ref wz), (js, 6, 4, .ref jkf), (js, 6, 5, .ref jks), (r0, 13, 1, .ref fm), (fm, 4, 1, .int fl), (r0, 13, 7, .ref op)] [(yb_76, 171, 40, ca 1, gb_177), (ye_76, 172, 40, ca 1, ge_177), (wk, 140, 1502, ca 1, fk), (wi, 141, 1502, ca 1, fi), (wz, 142, 1502, ca 1, fz), (jkf, 144, 1502, ca 1, fa), (jks, 145, 1502, ca 1, fs)] [(jFdo, jDcc dC dI ca G_47 (some ret_12) pho_76), ([(2, 0), (2, 1)], jOl (dC, dI) G0 2 [bo, ou] s.heap), (jFy, jYb dC dI G_47), (jFl, jLs dC dI ca G_47 3 none)] H_182 locs_182 := (((hh_177.call hb_1821 hb_1822 hb_1823 hb_1824 hS_182 rfl (L1 := [(ret_12, 3, 4, .int qs_177), (ret_12, 3, 3, .int length_181), (kernel_173, 7, 1, .ref syntax_176), (r0, 13, 5, .ref kernel_173), (ret_12, 3, 11, .ref chk_82), (ret_12, 3, 5, .ref yb_76), (ret_12, 3, 6, .ref ye_76), (ret_12, 3, 1, .int r_74), (r0, 13, 15, .ref spare_70), (bo, 2, 1, .int qc_47), (op, 1, 2, .int qz_47), (bo, 2, 0, .ref qa_47), (r0, 13, 4, .ref bo), (r0, 13, 3, .ref ou), (r0, 13, 2, .ref js), (js, 6, 7, .int pv), (js, 6, 8, .int pu), (js, 6, 0, .ref wk), (js, 6, 1, .ref wi), (js, 6, 2, .ref wz), (js, 6, 4, .ref jkf), (js, 6, 5, .ref jks), (r0, 13, 1, .ref fm), (fm, 4, 1, .int fl), (r0, 13, 7, .ref op)]) [0, 1, 2, 3, 4, 6, 7, 8, 9, 10, 11, 12, 13, 14, 15, 16, 17, 18, 19, 20, 21, 22, 23, 24, 25] rfl rfl (M1 := [(yb_76, 171, 40, ca 1, gb_177), (ye_76, 172, 40, ca 1, ge_177), (wk, 140, 1502, ca 1, fk), (wi, 141, 1502, ca 1, fi), (wz, 142, 1502, ca 1, fz), (jkf, 144, 1502, ca 1, fa), (jks, 145, 1502, ca 1, fs)]) [0, 1, 2, 3, 4, 5, 6] rfl rfl (I1 := [([(2, 0), (2, 1)], jOl (dC, dI) G0 2 [bo, ou] s.heap), (jFy, jYb dC dI G_47), (jFl, jLs dC dI ca G_47 3 none)]) [1, 2, 3] rfl rfl).more hb_1825)).addIs hbE_182
                      clear hh_177 ht_182 hvm_182 hz_182 hk_182 hS_182 hb_1821 hb_1822 hb_1823 hb_1824 hb_1825
                      clear  hbE_182
                      obtain ⟨hr_183b, hr_183p⟩ := hr_183
                      obtain ⟨hr_183p_0, hr_183p_1, hr_183p_2, hr_183p_3⟩ := hr_183p
                      have hr_183p_3o := jOr.of hr_183p_3
                      clear hr_183p_3
                      have hr_183p_3 := hr_183p_3o
                      clear hr_183p_3o
                      have hr_183' := jb_01 hr_183b
                      refine lv_if_ne (tgt := 239) hx hb dX11_changeDocument_230 (by decide) (fun c_184 => ?_) (fun c_184 => ?_)
                      · skip
                        have c_184' : r_183.toInt ≠ 0 := jb_ne (rfl) ((by decide)) c_184
                        first | (have hr_183p_3q := hr_183p_3.resolve_left (by omega); clear hr_183p_3) | (have hr_183p_3q := hr_183p_3.resolve_right (by omega); clear hr_183p_3) | skip
                        have hjg := jEd.ge hr_178_2 (k := qk_182.toInt) (by omega)
                        have hjh := jSn.ge hr_178_2 (k := qk_182.toInt) (by omega)
                        obtain ⟨phn_185, hphn_185⟩ : ∃ q : Nat, q = pho_76 + (575 * (qs_177.toInt - qk_182.toInt) - 16 + (1500 - jSo ge_177 qk_182.toInt)).toNat := ⟨_, rfl⟩
                        have hF_185 := jDcc.full (ph1 := phn_185) (hh_182.iv 0 rfl) hg_50 (hh_182.at 6 rfl) (hh_182.at 7 rfl) ⟨(hh_182.2.2.1.sub (L1 := [(ret_12, 3, 4, .int qs_177), (ret_12, 3, 10, .int qk_182), (ret_12, 3, 11, .ref chk_82)]) [1, 0, 5] rfl), (hh_182.2.2.2.2.2.2.2.1.sub (L1 := [(yb_76, 171, 40, ca 1, gb_177), (ye_76, 172, 40, ca 1, ge_177)]) [0, 1] rfl), (hr_178_2.mono (by omega)), by omega⟩ (w := (575 * (qs_177.toInt - qk_182.toInt) - 16 + (1500 - jSo ge_177 qk_182.toInt)).toNat) (fun _ => jPo.mkR (by omega)) (by omega) (fun _ => by omega)
                        have hh_186 := hh_182.sub (L1 := [(ret_12, 3, 10, .int qk_182), (ret_12, 3, 4, .int qs_177), (ret_12, 3, 3, .int length_181), (kernel_173, 7, 1, .ref syntax_176), (r0, 13, 5, .ref kernel_173), (ret_12, 3, 11, .ref chk_82), (ret_12, 3, 5, .ref yb_76), (ret_12, 3, 6, .ref ye_76), (ret_12, 3, 1, .int r_74), (r0, 13, 15, .ref spare_70), (bo, 2, 1, .int qc_47), (op, 1, 2, .int qz_47), (bo, 2, 0, .ref qa_47), (r0, 13, 4, .ref bo), (r0, 13, 3, .ref ou), (r0, 13, 2, .ref js), (js, 6, 7, .int pv), (js, 6, 8, .int pu), (js, 6, 0, .ref wk), (js, 6, 1, .ref wi), (js, 6, 2, .ref wz), (js, 6, 4, .ref jkf), (js, 6, 5, .ref jks), (r0, 13, 1, .ref fm), (fm, 4, 1, .int fl), (r0, 13, 7, .ref op)]) [0, 1, 2, 3, 4, 5, 6, 7, 8, 9, 10, 11, 12, 13, 14, 15, 16, 17, 18, 19, 20, 21, 22, 23, 24, 25] rfl (M1 := [(yb_76, 171, 40, ca 1, gb_177), (ye_76, 172, 40, ca 1, ge_177), (wk, 140, 1502, ca 1, fk), (wi, 141, 1502, ca 1, fi), (wz, 142, 1502, ca 1, fz), (jkf, 144, 1502, ca 1, fa), (jks, 145, 1502, ca 1, fs)]) [0, 1, 2, 3, 4, 5, 6] rfl (I1 := [([(2, 0), (2, 1)], jOl (dC, dI) G0 2 [bo, ou] s.heap), (jFy, jYb dC dI G_47), (jFl, jLs dC dI ca G_47 3 none)]) [1, 2, 3] rfl
                        clear hh_182
                        have hh_187 := hh_186.addI (jDcc.ie hF_185)
                        clear hh_186
                        refine lv_aload hx hb dX11_changeDocument_239 (lv_at hl 4 rfl) ?_
                        refine j7_read hx hb hown hK (C := RX1) (T := TX1) (N := 17) rfl hly_3_10 hlk_171 (hh_187.at 0 rfl) dX11_changeDocument_241 ?_
                        refine lv_aload hx hb dX11_changeDocument_244 (lv_at hl 4 rfl) ?_
                        refine j7_read hx hb hown hK (C := RX1) (T := TX1) (N := 17) rfl hly_3_4 hlk_168 (hh_187.at 1 rfl) dX11_changeDocument_246 ?_
                        refine lv_icmp_ne (tgt := 259) hx hb dX11_changeDocument_249 (by decide) (fun c_188 => ?_) (fun c_188 => ?_)
                        · skip
                          have c_188' : qk_182.toInt ≠ qs_177.toInt := jb_ne (rfl) (rfl) c_188
                          have hsz_189 := hh_187.2.2.2.2.2.1
                          have htt_189 := hh_187.2.2.2.2.2.2.1
                          refine W.room (fun hrc_189 hrs_189 => ?_)
                          refine W.widen (k := LC - s.heap.size) (n := LS - jTot s.heap) (by omega) (by omega) ?_
                          rw [hQ]
                          exact W.vret hx hb hr (fun t ht hW => ⟨⟨(qc_47, qa_47, m_qa_47, phn_185, G_47), rfl, by (try dsimp only); exact ⟨(by first | omega | rfl | assumption | fail), (by first | omega | rfl | assumption | fail), (by first | omega | rfl | assumption | fail), (by first | omega | rfl | assumption | fail), (by first | assumption | fail | omega), (by first | omega | rfl | assumption | fail)⟩, ⟨hh_187.ra (by first | omega | (simp only; omega)) (by first | omega | (simp only; omega)) (M1 := [(bo, 2, 1, .int qc_47), (bo, 2, 0, .ref qa_47)]) [10, 12] rfl ht, hgq_47_0, hNn_47, by rw [ht]; exact hh_187.iv 1 rfl, by rw [ht]; exact hh_187.2.2.2.2.2.2.2.2.sub (L1 := [(jFy, jYb dC dI G_47), (jFl, jLs dC dI ca G_47 3 none), (jFdo, jDcc dC dI ca G_47 none phn_185)]) [2, 3, 0] rfl⟩⟩, by rw [ht]; try exact hh_187.1.1, fun q h9 hq => by rw [ht]; try exact hh_187.1.2.1 q h9 hq⟩) hh_187.1.2.2 dX11_changeDocument_259
                        · skip
                          have c_188' : qk_182.toInt = qs_177.toInt := jb_ne_n (rfl) (rfl) c_188
                          first | (have hr_183p_3q := hr_183p_3.resolve_left (by omega); clear hr_183p_3) | (have hr_183p_3q := hr_183p_3.resolve_right (by omega); clear hr_183p_3) | skip
                          refine lv_aload_n hx hb dX11_changeDocument_252 rfl (lv_at hl 0 rfl) ?_
                          refine lv_aload hx hb dX11_changeDocument_253 (lv_at hl 4 rfl) ?_
                          refine lv_iconst (v := 1) hx hb dX11_changeDocument_255 (by decide) ?_
                          have hsz_190 := hh_187.2.2.2.2.2.1
                          have htt_190 := hh_187.2.2.2.2.2.2.1
                          refine W.room (fun hrc_190 hrs_190 => ?_)
                          refine va_callv (A0 := jA base) (H0 := s.heap) (va_runV (As := [.ref ret_12, .int 1]) (rest := []) ⟨hx, hb, hml, hown, hts⟩ (uX11_publish l dC dI ca base B hB hAp hB2 hB3 hB4 hB11 hB13 hB101 hB171 hB172 hB196 hB210 G_47 H_182 r0 ret_12 1 bo qc_47 qa_47 m_qa_47 ou LC LS) (cwV 2 hts (jgV (jWr_39 _ (List.mem_of_getElem? (i := 19) rfl)) (jWr_39 _ (List.mem_of_getElem? (i := 20) rfl)) (jWr_39 _ (List.mem_of_getElem? (i := 21) rfl)) (jWr_1 _ (List.mem_of_getElem? (i := 2) rfl)) (jWr_39 _ (List.mem_of_getElem? (i := 22) rfl))) rfl rfl rfl (by decide +kernel) ⟨by rw [← hR]; exact Nat.le_of_ble_eq_true rfl, by rw [← hR]; exact Nat.le_of_ble_eq_true rfl⟩) ⟨fun a U g mk q => by obtain ⟨q0, q1, q2, qK, q10, q11, q12, q13, q14, q15, q16, q17, q18, q19⟩ := q; exact ⟨q0, q1, q2, jG.calling g mk a qK, (va_K.moved (Vm.Alike.refl U.vm) q10), q11, q12, q13, q14, q15, q16, q17, q18, q19⟩, hh_187.recv (C := RX11) (T := TX11) (N := 19) hB13 rfl (by decide) hg_49 hK, fun U hU hW => ⟨rfl, hU, hh_187.2.1, hG.step hW hU hh_187.1, va_K.moved hW.alike hK2, hg_50, hg_49, (Or.inr rfl), hg_51, hgq_47_0, hg_52, (hh_187.2.2.1.sub (L1 := [(r0, 13, 4, .ref bo), (bo, 2, 1, .int qc_47), (bo, 2, 0, .ref qa_47), (r0, 13, 3, .ref ou)]) [13, 10, 12, 14] rfl), (hh_187.2.2.2.2.2.2.2.2.sub (L1 := [(jFy, jYb dC dI G_47)]) [2] rfl), (by omega), (by omega), ⟨(by first | omega | rfl | assumption | fail), (by first | omega | rfl | assumption | fail), (by first | omega | rfl | assumption | fail), (by first | omega | rfl | assumption | fail), (by first | assumption | fail | omega)⟩⟩⟩ rfl rfl hl.1 rfl (lv_room (Nat.le_of_ble_eq_true rfl)) dX11_changeDocument_256 ⟨by rw [hRc]; omega, by rw [hRs]; omega⟩) hh_187.1 (fun q _ h => h) (fun q h => h) (fun u_190 t_190 H_190 locs_190 ht_190 hvm_190 hr_191 hb_190 hz_190 hk_190 hS_190 => ?_)
                          obtain ⟨qc_190, qa_190, m_qa_190, G_190⟩ := u_190
                          rw [ht_190] at hb_190
                          simp only at hb_190
                          obtain ⟨⟨hb_1901, hb_1902, hb_1903, hb_1904, hb_1905, hb_1906⟩, hgq_190_0, hN_190, hbO_190, hbE_190⟩ := hb_190
                          have hh_190 : jSt (dC, dI) B base G0 G_190 EX11_changeDocument s.heap (((m_qa_47 - n_pa) / 16 + (ph + 200 * fl.toInt.toNat - ph) / 16) + ((m_qa_190 - m_qa_47) / 16)) ((2 * (m_qa_47 - n_pa) + (ph + 200 * fl.toInt.toNat - ph)) + (2 * (m_qa_190 - m_qa_47))) [(bo, 2, 1, .int qc_190), (bo, 2, 0, .ref qa_190), (ret_12, 3, 10, .int qk_182), (ret_12, 3, 4, .int qs_177), (ret_12, 3, 3, .int length_181), (kernel_173, 7, 1, .ref syntax_176), (r0, 13, 5, .ref kernel_173), (ret_12, 3, 11, .ref chk_82), (ret_12, 3, 5, .ref yb_76), (ret_12, 3, 6, .ref ye_76), (ret_12, 3, 1, .int r_74), (r0, 13, 15, .ref spare_70), (op, 1, 2, .int qz_47), (r0, 13, 4, .ref bo), (r0, 13, 3, .ref ou), (r0, 13, 2, .ref js), (js, 6, 7, .int pv), (js, 6, 8, .int pu), (js, 6, 0, .ref wk), (js, 6, 1, .ref wi), (js, 6, 2, .ref wz), (js, 6, 4, .ref jkf), (js, 6, 5, .ref jks), (r0, 13, 1, .ref fm), (fm, 4, 1, .int fl), (r0, 13, 7, .ref op)] [(yb_76, 171, 40, ca 1, gb_177), (ye_76, 172, 40, ca 1, ge_177), (wk, 140, 1502, ca 1, fk), (wi, 141, 1502, ca 1, fi), (wz, 142, 1502, ca 1, fz), (jkf, 144, 1502, ca 1, fa), (jks, 145, 1502, ca 1, fs)] [(jFdo, jDcc dC dI ca G_47 none phn_185), (jFl, jLs dC dI ca G_47 3 none)] H_190 locs_190 := (hh_187.callG hb_1901 hb_1902 hb_1903 hb_1904 hb_1905 hS_190 rfl (L1 := [(ret_12, 3, 10, .int qk_182), (ret_12, 3, 4, .int qs_177), (ret_12, 3, 3, .int length_181), (kernel_173, 7, 1, .ref syntax_176), (r0, 13, 5, .ref kernel_173), (ret_12, 3, 11, .ref chk_82), (ret_12, 3, 5, .ref yb_76), (ret_12, 3, 6, .ref ye_76), (ret_12, 3, 1, .int r_74), (r0, 13, 15, .ref spare_70), (op, 1, 2, .int qz_47), (r0, 13, 4, .ref bo), (r0, 13, 3, .ref ou), (r0, 13, 2, .ref js), (js, 6, 7, .int pv), (js, 6, 8, .int pu), (js, 6, 0, .ref wk), (js, 6, 1, .ref wi), (js, 6, 2, .ref wz), (js, 6, 4, .ref jkf), (js, 6, 5, .ref jks), (r0, 13, 1, .ref fm), (fm, 4, 1, .int fl), (r0, 13, 7, .ref op)]) [0, 1, 2, 3, 4, 5, 6, 7, 8, 9, 11, 13, 14, 15, 16, 17, 18, 19, 20, 21, 22, 23, 24, 25] rfl rfl (M1 := [(yb_76, 171, 40, ca 1, gb_177), (ye_76, 172, 40, ca 1, ge_177), (wk, 140, 1502, ca 1, fk), (wi, 141, 1502, ca 1, fi), (wz, 142, 1502, ca 1, fz), (jkf, 144, 1502, ca 1, fa), (jks, 145, 1502, ca 1, fs)]) [0, 1, 2, 3, 4, 5, 6] rfl rfl (I1 := [(jFdo, jDcc dC dI ca G_47 none phn_185), (jFl, jLs dC dI ca G_47 3 none)]) [0, 3] rfl rfl).more hb_1906
                          have hNn_190 : (jNk [0, 1, 2, 3, 4, 5, 6, 7, 8, 9, 10, 11, 12, 13, 14, 15, 16]) G0 G_190 := (hNn_47).tr hN_190
                          have hg_192 := hb_1902 _ _ hg_49
                          have hg_193 := hb_1902 _ _ hg_50
                          have hg_194 := hb_1902 _ _ hg_syntax_176
                          have hg_195 := hb_1902 _ _ hg_kernel_173
                          have hg_196 := hb_1902 _ _ hg_chk_82
                          have hg_197 := hb_1902 _ _ hgb_76
                          have hg_198 := hb_1902 _ _ hge_76
                          have hg_199 := hb_1902 _ _ hg_spare_70
                          have hg_200 := hb_1902 _ _ hg_51
                          have hg_201 := hb_1902 _ _ hg_52
                          have hg_202 := hb_1902 _ _ hg_53
                          have hg_203 := hb_1902 _ _ hg_54
                          have hg_204 := hb_1902 _ _ hg_55
                          have hg_205 := hb_1902 _ _ hg_56
                          have hg_206 := hb_1902 _ _ hg_57
                          have hg_207 := hb_1902 _ _ hg_58
                          have hg_208 := hb_1902 _ _ hg_59
                          have hg_209 := hb_1902 _ _ hg_60
                          have hd_210 := jDcc.grow (hh_190.iv 0 rfl) hb_1902 hN_190 (by decide)
                          have hh_211 := hh_190.sub (L1 := [(bo, 2, 1, .int qc_190), (bo, 2, 0, .ref qa_190), (ret_12, 3, 10, .int qk_182), (ret_12, 3, 4, .int qs_177), (ret_12, 3, 3, .int length_181), (kernel_173, 7, 1, .ref syntax_176), (r0, 13, 5, .ref kernel_173), (ret_12, 3, 11, .ref chk_82), (ret_12, 3, 5, .ref yb_76), (ret_12, 3, 6, .ref ye_76), (ret_12, 3, 1, .int r_74), (r0, 13, 15, .ref spare_70), (op, 1, 2, .int qz_47), (r0, 13, 4, .ref bo), (r0, 13, 3, .ref ou), (r0, 13, 2, .ref js), (js, 6, 7, .int pv), (js, 6, 8, .int pu), (js, 6, 0, .ref wk), (js, 6, 1, .ref wi), (js, 6, 2, .ref wz), (js, 6, 4, .ref jkf), (js, 6, 5, .ref jks), (r0, 13, 1, .ref fm), (fm, 4, 1, .int fl), (r0, 13, 7, .ref op)]) [0, 1, 2, 3, 4, 5, 6, 7, 8, 9, 10, 11, 12, 13, 14, 15, 16, 17, 18, 19, 20, 21, 22, 23, 24, 25] rfl (M1 := [(yb_76, 171, 40, ca 1, gb_177), (ye_76, 172, 40, ca 1, ge_177), (wk, 140, 1502, ca 1, fk), (wi, 141, 1502, ca 1, fi), (wz, 142, 1502, ca 1, fz), (jkf, 144, 1502, ca 1, fa), (jks, 145, 1502, ca 1, fs)]) [0, 1, 2, 3, 4, 5, 6] rfl (I1 := [(jFl, jLs dC dI ca G_47 3 none)]) [1] rfl
                          clear hh_190
                          have hh_212 := hh_211.addI (jDcc.ie hd_210)
                          clear hh_211
                          have hd_213 := jLs.grow (hh_212.iv 1 rfl) hb_1902 hN_190 (by decide)
                          have hh_214 := hh_212.sub (L1 := [(bo, 2, 1, .int qc_190), (bo, 2, 0, .ref qa_190), (ret_12, 3, 10, .int qk_182), (ret_12, 3, 4, .int qs_177), (ret_12, 3, 3, .int length_181), (kernel_173, 7, 1, .ref syntax_176), (r0, 13, 5, .ref kernel_173), (ret_12, 3, 11, .ref chk_82), (ret_12, 3, 5, .ref yb_76), (ret_12, 3, 6, .ref ye_76), (ret_12, 3, 1, .int r_74), (r0, 13, 15, .ref spare_70), (op, 1, 2, .int qz_47), (r0, 13, 4, .ref bo), (r0, 13, 3, .ref ou), (r0, 13, 2, .ref js), (js, 6, 7, .int pv), (js, 6, 8, .int pu), (js, 6, 0, .ref wk), (js, 6, 1, .ref wi), (js, 6, 2, .ref wz), (js, 6, 4, .ref jkf), (js, 6, 5, .ref jks), (r0, 13, 1, .ref fm), (fm, 4, 1, .int fl), (r0, 13, 7, .ref op)]) [0, 1, 2, 3, 4, 5, 6, 7, 8, 9, 10, 11, 12, 13, 14, 15, 16, 17, 18, 19, 20, 21, 22, 23, 24, 25] rfl (M1 := [(yb_76, 171, 40, ca 1, gb_177), (ye_76, 172, 40, ca 1, ge_177), (wk, 140, 1502, ca 1, fk), (wi, 141, 1502, ca 1, fi), (wz, 142, 1502, ca 1, fz), (jkf, 144, 1502, ca 1, fa), (jks, 145, 1502, ca 1, fs)]) [0, 1, 2, 3, 4, 5, 6] rfl (I1 := [(jFdo, jDcc dC dI ca G_190 none phn_185)]) [0] rfl
                          clear hh_212
                          have hh_215 := hh_214.addI (jLs.ie hd_213)
                          clear hh_214
                          have hh_216 := hh_215.addIs hbE_190
                          have hd_217 := jOl.trL (hh_187.iv 1 rfl) hh_187.2.2.2.2.1 hbO_190 (by simp)
                          have hh_218 := hh_216.addI (jOl.ie (dC := dC) (dI := dI) (G0 := G0) (k := 2) (rs := [bo, ou]) (H0 := s.heap) (F := [(2, 0), (2, 1)]) (C := RX0) (T := TX0) (N := 2) rfl (by decide) hh_216.2.2.2.2.1 (hd_217))
                          clear hh_216
                          try simp only at hr_191
                          obtain ⟨hr_191_0, hr_191_1, hr_191_2, hr_191_3, hr_191_4⟩ := hr_191
                          have hh_219 := hh_218.wk (zc1 := (m_qa_190 - n_pa) / 16 + (ph + 200 * fl.toInt.toNat - phn_185) / 16) (zs1 := 2 * (m_qa_190 - n_pa) + (ph + 200 * fl.toInt.toNat - phn_185)) (by omega) (by omega)
                          clear hh_218
                          try clear hsz_190 htt_190 hrc_190 hrs_190
                          try clear hb_1904 hb_1905
                          have hsz_220 := hh_219.2.2.2.2.2.1
                          have htt_220 := hh_219.2.2.2.2.2.2.1
                          refine W.room (fun hrc_220 hrs_220 => ?_)
                          refine W.widen (k := LC - s.heap.size) (n := LS - jTot s.heap) (by omega) (by omega) ?_
                          rw [hQ]
                          exact W.vret hx hb hr (fun t ht hW => ⟨⟨(qc_190, qa_190, m_qa_190, phn_185, G_190), rfl, by (try dsimp only); exact ⟨(by first | omega | rfl | assumption | fail), (by first | omega | rfl | assumption | fail), (by first | omega | rfl | assumption | fail), (by first | omega | rfl | assumption | fail), (by first | assumption | fail | omega), (by first | omega | rfl | assumption | fail)⟩, ⟨hh_219.ra (by first | omega | (simp only; omega)) (by first | omega | (simp only; omega)) (M1 := [(bo, 2, 1, .int qc_190), (bo, 2, 0, .ref qa_190)]) [0, 1] rfl ht, hgq_190_0, hNn_190, by rw [ht]; exact hh_219.iv 0 rfl, by rw [ht]; exact hh_219.2.2.2.2.2.2.2.2.sub (L1 := [(jFy, jYb dC dI G_190), (jFl, jLs dC dI ca G_190 3 none), (jFdo, jDcc dC dI ca G_190 none phn_185)]) [1, 2, 3] rfl⟩⟩, by rw [ht]; try exact hh_219.1.1, fun q h9 hq => by rw [ht]; try exact hh_219.1.2.1 q h9 hq⟩) hh_219.1.2.2 dX11_changeDocument_259
                      · skip
                        have c_184' : r_183.toInt = 0 := jb_ne_n (rfl) ((by decide)) c_184
                        first | (have hr_183p_3q := hr_183p_3.resolve_left (by omega); clear hr_183p_3) | (have hr_183p_3q := hr_183p_3.resolve_right (by omega); clear hr_183p_3) | skip
                        refine lv_aload_n hx hb dX11_changeDocument_233 rfl (lv_at hl 0 rfl) ?_
                        refine lv_aload hx hb dX11_changeDocument_234 (lv_at hl 4 rfl) ?_
                        have hsz_221 := hh_182.2.2.2.2.2.1
                        have htt_221 := hh_182.2.2.2.2.2.2.1
                        refine W.room (fun hrc_221 hrs_221 => ?_)
                        refine va_callv (A0 := jA base) (H0 := s.heap) (va_runV (As := [.ref ret_12]) (rest := []) ⟨hx, hb, hml, hown, hts⟩ (uX11_releaseE l dC dI ca base B hB hAp hB3 hB11 hB13 hB101 hB212 G_47 H_182 r0 ret_12 yb_76 ye_76 (pho_76)) (cwV 1 hts (jgV (jWr_43 _ (List.mem_of_getElem? (i := 3) rfl)) (jWr_43 _ (List.mem_of_getElem? (i := 4) rfl)) (jWr_43 _ (List.mem_of_getElem? (i := 5) rfl)) (jWr_1 _ (List.mem_of_getElem? (i := 2) rfl)) (jWr_43 _ (List.mem_of_getElem? (i := 6) rfl))) rfl rfl rfl (by decide +kernel) ⟨by rw [← hR]; exact Nat.le_of_ble_eq_true rfl, by rw [← hR]; exact Nat.le_of_ble_eq_true rfl⟩) ⟨fun a U g mk q => by obtain ⟨q0, q1, q2, qK, q10, q11, q12, q13, q14, q15, q16, q17⟩ := q; exact ⟨q0, q1, q2, jG.calling g mk a qK, (va_K.moved (Vm.Alike.refl U.vm) q10), q11, q12, q13, q14, q15, q16, q17⟩, hh_182.recv (C := RX11) (T := TX11) (N := 19) hB13 rfl (by decide) hg_49 hK, fun U hU hW => ⟨rfl, hU, hh_182.2.1, hG.step hW hU hh_182.1, va_K.moved hW.alike hK2, hg_49, hg_50, hgb_76, hge_76, (hh_182.2.2.1.sub (L1 := [(ret_12, 3, 5, .ref yb_76), (ret_12, 3, 6, .ref ye_76)]) [6, 7] rfl), (hh_182.2.2.2.2.2.2.2.2.sub (L1 := [(jFdo, jDcc dC dI ca G_47 (some ret_12) pho_76)]) [0] rfl), trivial⟩⟩ rfl rfl hl.1 rfl (lv_room (Nat.le_of_ble_eq_true rfl)) dX11_changeDocument_236 ⟨by rw [hRc]; show _ + 0 ≤ _; omega, by rw [hRs]; show _ + 0 ≤ _; omega⟩) hh_182.1 (fun q _ h => h) (fun q h => h) (fun u_221 t_221 H_221 locs_221 ht_221 hvm_221 hr_222 hb_221 hz_221 hk_221 hS_221 => ?_)
                        rw [ht_221] at hb_221
                        obtain ⟨hb_221, hbE_221⟩ := hb_221
                        obtain ⟨hb_2211, hb_2212, hb_2213, hb_2214, hb_2215⟩ := hb_221
                        have hh_221 : jSt (dC, dI) B base G0 G_47 EX11_changeDocument s.heap ((m_qa_47 - n_pa) / 16 + (ph + 200 * fl.toInt.toNat - ph) / 16) (2 * (m_qa_47 - n_pa) + (ph + 200 * fl.toInt.toNat - ph)) [(ret_12, 3, 11, .null), (ret_12, 3, 10, .int qk_182), (ret_12, 3, 4, .int qs_177), (ret_12, 3, 3, .int length_181), (kernel_173, 7, 1, .ref syntax_176), (r0, 13, 5, .ref kernel_173), (ret_12, 3, 5, .ref yb_76), (ret_12, 3, 6, .ref ye_76), (ret_12, 3, 1, .int r_74), (r0, 13, 15, .ref spare_70), (bo, 2, 1, .int qc_47), (op, 1, 2, .int qz_47), (bo, 2, 0, .ref qa_47), (r0, 13, 4, .ref bo), (r0, 13, 3, .ref ou), (r0, 13, 2, .ref js), (js, 6, 7, .int pv), (js, 6, 8, .int pu), (js, 6, 0, .ref wk), (js, 6, 1, .ref wi), (js, 6, 2, .ref wz), (js, 6, 4, .ref jkf), (js, 6, 5, .ref jks), (r0, 13, 1, .ref fm), (fm, 4, 1, .int fl), (r0, 13, 7, .ref op)] [(yb_76, 171, 40, ca 1, gb_177), (ye_76, 172, 40, ca 1, ge_177), (wk, 140, 1502, ca 1, fk), (wi, 141, 1502, ca 1, fi), (wz, 142, 1502, ca 1, fz), (jkf, 144, 1502, ca 1, fa), (jks, 145, 1502, ca 1, fs)] [(jFdo, jDcc dC dI ca G_47 (some ret_12) pho_76), ([(2, 0), (2, 1)], jOl (dC, dI) G0 2 [bo, ou] s.heap), (jFy, jYb dC dI G_47), (jFl, jLs dC dI ca G_47 3 none)] H_221 locs_221 := (((hh_182.call hb_2211 hb_2212 hb_2213 hb_2214 hS_221 rfl (L1 := [(ret_12, 3, 10, .int qk_182), (ret_12, 3, 4, .int qs_177), (ret_12, 3, 3, .int length_181), (kernel_173, 7, 1, .ref syntax_176), (r0, 13, 5, .ref kernel_173), (ret_12, 3, 5, .ref yb_76), (ret_12, 3, 6, .ref ye_76), (ret_12, 3, 1, .int r_74), (r0, 13, 15, .ref spare_70), (bo, 2, 1, .int qc_47), (op, 1, 2, .int qz_47), (bo, 2, 0, .ref qa_47), (r0, 13, 4, .ref bo), (r0, 13, 3, .ref ou), (r0, 13, 2, .ref js), (js, 6, 7, .int pv), (js, 6, 8, .int pu), (js, 6, 0, .ref wk), (js, 6, 1, .ref wi), (js, 6, 2, .ref wz), (js, 6, 4, .ref jkf), (js, 6, 5, .ref jks), (r0, 13, 1, .ref fm), (fm, 4, 1, .int fl), (r0, 13, 7, .ref op)]) [0, 1, 2, 3, 4, 6, 7, 8, 9, 10, 11, 12, 13, 14, 15, 16, 17, 18, 19, 20, 21, 22, 23, 24, 25] rfl rfl (M1 := [(yb_76, 171, 40, ca 1, gb_177), (ye_76, 172, 40, ca 1, ge_177), (wk, 140, 1502, ca 1, fk), (wi, 141, 1502, ca 1, fi), (wz, 142, 1502, ca 1, fz), (jkf, 144, 1502, ca 1, fa), (jks, 145, 1502, ca 1, fs)]) [0, 1, 2, 3, 4, 5, 6] rfl rfl (I1 := [([(2, 0), (2, 1)], jOl (dC, dI) G0 2 [bo, ou] s.heap), (jFy, jYb dC dI G_47), (jFl, jLs dC dI ca G_47 3 none)]) [1, 2, 3] rfl rfl).more hb_2215)).addIs hbE_221
                        clear hh_182 ht_221 hvm_221 hz_221 hk_221 hS_221 hb_2211 hb_2212 hb_2213 hb_2214 hb_2215
                        clear  hbE_221
                        have hjg := jEd.ge hr_178_2 (k := qk_182.toInt) (by omega)
                        have hjh := jSn.ge hr_178_2 (k := qk_182.toInt) (by omega)
                        obtain ⟨phn_223, hphn_223⟩ : ∃ q : Nat, q = pho_76 + (575 * (qs_177.toInt - qk_182.toInt) + (1500 - jEd ge_177 qk_182.toInt)).toNat := ⟨_, rfl⟩
                        have hF_223 := jDcc.full (ph1 := phn_223) (hh_221.iv 0 rfl) hg_50 (hh_221.at 6 rfl) (hh_221.at 7 rfl) ⟨(hh_221.2.2.1.sub (L1 := [(ret_12, 3, 4, .int qs_177), (ret_12, 3, 10, .int qk_182), (ret_12, 3, 11, .null)]) [2, 1, 0] rfl), (hh_221.2.2.2.2.2.2.2.1.sub (L1 := [(yb_76, 171, 40, ca 1, gb_177), (ye_76, 172, 40, ca 1, ge_177)]) [0, 1] rfl), (hr_178_2.mono (by omega)), by omega⟩ (w := (575 * (qs_177.toInt - qk_182.toInt) + (1500 - jEd ge_177 qk_182.toInt)).toNat) (fun _ => jPo.mkN (by omega)) (by omega) (fun _ => by omega)
                        have hh_224 := hh_221.sub (L1 := [(ret_12, 3, 11, .null), (ret_12, 3, 10, .int qk_182), (ret_12, 3, 4, .int qs_177), (ret_12, 3, 3, .int length_181), (kernel_173, 7, 1, .ref syntax_176), (r0, 13, 5, .ref kernel_173), (ret_12, 3, 5, .ref yb_76), (ret_12, 3, 6, .ref ye_76), (ret_12, 3, 1, .int r_74), (r0, 13, 15, .ref spare_70), (bo, 2, 1, .int qc_47), (op, 1, 2, .int qz_47), (bo, 2, 0, .ref qa_47), (r0, 13, 4, .ref bo), (r0, 13, 3, .ref ou), (r0, 13, 2, .ref js), (js, 6, 7, .int pv), (js, 6, 8, .int pu), (js, 6, 0, .ref wk), (js, 6, 1, .ref wi), (js, 6, 2, .ref wz), (js, 6, 4, .ref jkf), (js, 6, 5, .ref jks), (r0, 13, 1, .ref fm), (fm, 4, 1, .int fl), (r0, 13, 7, .ref op)]) [0, 1, 2, 3, 4, 5, 6, 7, 8, 9, 10, 11, 12, 13, 14, 15, 16, 17, 18, 19, 20, 21, 22, 23, 24, 25] rfl (M1 := [(yb_76, 171, 40, ca 1, gb_177), (ye_76, 172, 40, ca 1, ge_177), (wk, 140, 1502, ca 1, fk), (wi, 141, 1502, ca 1, fi), (wz, 142, 1502, ca 1, fz), (jkf, 144, 1502, ca 1, fa), (jks, 145, 1502, ca 1, fs)]) [0, 1, 2, 3, 4, 5, 6] rfl (I1 := [([(2, 0), (2, 1)], jOl (dC, dI) G0 2 [bo, ou] s.heap), (jFy, jYb dC dI G_47), (jFl, jLs dC dI ca G_47 3 none)]) [1, 2, 3] rfl
                        clear hh_221
                        have hh_225 := hh_224.addI (jDcc.ie hF_223)
                        clear hh_224
                        refine lv_aload hx hb dX11_changeDocument_239 (lv_at hl 4 rfl) ?_
                        refine j7_read hx hb hown hK (C := RX1) (T := TX1) (N := 17) rfl hly_3_10 hlk_171 (hh_225.at 1 rfl) dX11_changeDocument_241 ?_
                        refine lv_aload hx hb dX11_changeDocument_244 (lv_at hl 4 rfl) ?_
                        refine j7_read hx hb hown hK (C := RX1) (T := TX1) (N := 17) rfl hly_3_4 hlk_168 (hh_225.at 2 rfl) dX11_changeDocument_246 ?_
                        refine lv_icmp_ne (tgt := 259) hx hb dX11_changeDocument_249 (by decide) (fun c_226 => ?_) (fun c_226 => ?_)
                        · skip
                          have c_226' : qk_182.toInt ≠ qs_177.toInt := jb_ne (rfl) (rfl) c_226
                          have hsz_227 := hh_225.2.2.2.2.2.1
                          have htt_227 := hh_225.2.2.2.2.2.2.1
                          refine W.room (fun hrc_227 hrs_227 => ?_)
                          refine W.widen (k := LC - s.heap.size) (n := LS - jTot s.heap) (by omega) (by omega) ?_
                          rw [hQ]
                          exact W.vret hx hb hr (fun t ht hW => ⟨⟨(qc_47, qa_47, m_qa_47, phn_223, G_47), rfl, by (try dsimp only); exact ⟨(by first | omega | rfl | assumption | fail), (by first | omega | rfl | assumption | fail), (by first | omega | rfl | assumption | fail), (by first | omega | rfl | assumption | fail), (by first | assumption | fail | omega), (by first | omega | rfl | assumption | fail)⟩, ⟨hh_225.ra (by first | omega | (simp only; omega)) (by first | omega | (simp only; omega)) (M1 := [(bo, 2, 1, .int qc_47), (bo, 2, 0, .ref qa_47)]) [10, 12] rfl ht, hgq_47_0, hNn_47, by rw [ht]; exact hh_225.iv 1 rfl, by rw [ht]; exact hh_225.2.2.2.2.2.2.2.2.sub (L1 := [(jFy, jYb dC dI G_47), (jFl, jLs dC dI ca G_47 3 none), (jFdo, jDcc dC dI ca G_47 none phn_223)]) [2, 3, 0] rfl⟩⟩, by rw [ht]; try exact hh_225.1.1, fun q h9 hq => by rw [ht]; try exact hh_225.1.2.1 q h9 hq⟩) hh_225.1.2.2 dX11_changeDocument_259
                        · skip
                          have c_226' : qk_182.toInt = qs_177.toInt := jb_ne_n (rfl) (rfl) c_226
                          first | (have hr_183p_3q := hr_183p_3.resolve_left (by omega); clear hr_183p_3) | (have hr_183p_3q := hr_183p_3.resolve_right (by omega); clear hr_183p_3) | skip
                          refine lv_aload_n hx hb dX11_changeDocument_252 rfl (lv_at hl 0 rfl) ?_
                          refine lv_aload hx hb dX11_changeDocument_253 (lv_at hl 4 rfl) ?_
                          refine lv_iconst (v := 1) hx hb dX11_changeDocument_255 (by decide) ?_
                          have hsz_228 := hh_225.2.2.2.2.2.1
                          have htt_228 := hh_225.2.2.2.2.2.2.1
                          refine W.room (fun hrc_228 hrs_228 => ?_)
                          refine va_callv (A0 := jA base) (H0 := s.heap) (va_runV (As := [.ref ret_12, .int 1]) (rest := []) ⟨hx, hb, hml, hown, hts⟩ (uX11_publish l dC dI ca base B hB hAp hB2 hB3 hB4 hB11 hB13 hB101 hB171 hB172 hB196 hB210 G_47 H_221 r0 ret_12 1 bo qc_47 qa_47 m_qa_47 ou LC LS) (cwV 2 hts (jgV (jWr_39 _ (List.mem_of_getElem? (i := 19) rfl)) (jWr_39 _ (List.mem_of_getElem? (i := 20) rfl)) (jWr_39 _ (List.mem_of_getElem? (i := 21) rfl)) (jWr_1 _ (List.mem_of_getElem? (i := 2) rfl)) (jWr_39 _ (List.mem_of_getElem? (i := 22) rfl))) rfl rfl rfl (by decide +kernel) ⟨by rw [← hR]; exact Nat.le_of_ble_eq_true rfl, by rw [← hR]; exact Nat.le_of_ble_eq_true rfl⟩) ⟨fun a U g mk q => by obtain ⟨q0, q1, q2, qK, q10, q11, q12, q13, q14, q15, q16, q17, q18, q19⟩ := q; exact ⟨q0, q1, q2, jG.calling g mk a qK, (va_K.moved (Vm.Alike.refl U.vm) q10), q11, q12, q13, q14, q15, q16, q17, q18, q19⟩, hh_225.recv (C := RX11) (T := TX11) (N := 19) hB13 rfl (by decide) hg_49 hK, fun U hU hW => ⟨rfl, hU, hh_225.2.1, hG.step hW hU hh_225.1, va_K.moved hW.alike hK2, hg_50, hg_49, (Or.inr rfl), hg_51, hgq_47_0, hg_52, (hh_225.2.2.1.sub (L1 := [(r0, 13, 4, .ref bo), (bo, 2, 1, .int qc_47), (bo, 2, 0, .ref qa_47), (r0, 13, 3, .ref ou)]) [13, 10, 12, 14] rfl), (hh_225.2.2.2.2.2.2.2.2.sub (L1 := [(jFy, jYb dC dI G_47)]) [2] rfl), (by omega), (by omega), ⟨(by first | omega | rfl | assumption | fail), (by first | omega | rfl | assumption | fail), (by first | omega | rfl | assumption | fail), (by first | omega | rfl | assumption | fail), (by first | assumption | fail | omega)⟩⟩⟩ rfl rfl hl.1 rfl (lv_room (Nat.le_of_ble_eq_true rfl)) dX11_changeDocument_256 ⟨by rw [hRc]; omega, by rw [hRs]; omega⟩) hh_225.1 (fun q _ h => h) (fun q h => h) (fun u_228 t_228 H_228 locs_228 ht_228 hvm_228 hr_229 hb_228 hz_228 hk_228 hS_228 => ?_)
                          obtain ⟨qc_228, qa_228, m_qa_228, G_228⟩ := u_228
                          rw [ht_228] at hb_228
                          simp only at hb_228
                          obtain ⟨⟨hb_2281, hb_2282, hb_2283, hb_2284, hb_2285, hb_2286⟩, hgq_228_0, hN_228, hbO_228, hbE_228⟩ := hb_228
                          have hh_228 : jSt (dC, dI) B base G0 G_228 EX11_changeDocument s.heap (((m_qa_47 - n_pa) / 16 + (ph + 200 * fl.toInt.toNat - ph) / 16) + ((m_qa_228 - m_qa_47) / 16)) ((2 * (m_qa_47 - n_pa) + (ph + 200 * fl.toInt.toNat - ph)) + (2 * (m_qa_228 - m_qa_47))) [(bo, 2, 1, .int qc_228), (bo, 2, 0, .ref qa_228), (ret_12, 3, 11, .null), (ret_12, 3, 10, .int qk_182), (ret_12, 3, 4, .int qs_177), (ret_12, 3, 3, .int length_181), (kernel_173, 7, 1, .ref syntax_176), (r0, 13, 5, .ref kernel_173), (ret_12, 3, 5, .ref yb_76), (ret_12, 3, 6, .ref ye_76), (ret_12, 3, 1, .int r_74), (r0, 13, 15, .ref spare_70), (op, 1, 2, .int qz_47), (r0, 13, 4, .ref bo), (r0, 13, 3, .ref ou), (r0, 13, 2, .ref js), (js, 6, 7, .int pv), (js, 6, 8, .int pu), (js, 6, 0, .ref wk), (js, 6, 1, .ref wi), (js, 6, 2, .ref wz), (js, 6, 4, .ref jkf), (js, 6, 5, .ref jks), (r0, 13, 1, .ref fm), (fm, 4, 1, .int fl), (r0, 13, 7, .ref op)] [(yb_76, 171, 40, ca 1, gb_177), (ye_76, 172, 40, ca 1, ge_177), (wk, 140, 1502, ca 1, fk), (wi, 141, 1502, ca 1, fi), (wz, 142, 1502, ca 1, fz), (jkf, 144, 1502, ca 1, fa), (jks, 145, 1502, ca 1, fs)] [(jFdo, jDcc dC dI ca G_47 none phn_223), (jFl, jLs dC dI ca G_47 3 none)] H_228 locs_228 := (hh_225.callG hb_2281 hb_2282 hb_2283 hb_2284 hb_2285 hS_228 rfl (L1 := [(ret_12, 3, 11, .null), (ret_12, 3, 10, .int qk_182), (ret_12, 3, 4, .int qs_177), (ret_12, 3, 3, .int length_181), (kernel_173, 7, 1, .ref syntax_176), (r0, 13, 5, .ref kernel_173), (ret_12, 3, 5, .ref yb_76), (ret_12, 3, 6, .ref ye_76), (ret_12, 3, 1, .int r_74), (r0, 13, 15, .ref spare_70), (op, 1, 2, .int qz_47), (r0, 13, 4, .ref bo), (r0, 13, 3, .ref ou), (r0, 13, 2, .ref js), (js, 6, 7, .int pv), (js, 6, 8, .int pu), (js, 6, 0, .ref wk), (js, 6, 1, .ref wi), (js, 6, 2, .ref wz), (js, 6, 4, .ref jkf), (js, 6, 5, .ref jks), (r0, 13, 1, .ref fm), (fm, 4, 1, .int fl), (r0, 13, 7, .ref op)]) [0, 1, 2, 3, 4, 5, 6, 7, 8, 9, 11, 13, 14, 15, 16, 17, 18, 19, 20, 21, 22, 23, 24, 25] rfl rfl (M1 := [(yb_76, 171, 40, ca 1, gb_177), (ye_76, 172, 40, ca 1, ge_177), (wk, 140, 1502, ca 1, fk), (wi, 141, 1502, ca 1, fi), (wz, 142, 1502, ca 1, fz), (jkf, 144, 1502, ca 1, fa), (jks, 145, 1502, ca 1, fs)]) [0, 1, 2, 3, 4, 5, 6] rfl rfl (I1 := [(jFdo, jDcc dC dI ca G_47 none phn_223), (jFl, jLs dC dI ca G_47 3 none)]) [0, 3] rfl rfl).more hb_2286
                          have hNn_228 : (jNk [0, 1, 2, 3, 4, 5, 6, 7, 8, 9, 10, 11, 12, 13, 14, 15, 16]) G0 G_228 := (hNn_47).tr hN_228
                          have hg_230 := hb_2282 _ _ hg_49
                          have hg_231 := hb_2282 _ _ hg_50
                          have hg_232 := hb_2282 _ _ hg_syntax_176
                          have hg_233 := hb_2282 _ _ hg_kernel_173
                          have hg_234 := hb_2282 _ _ hgb_76
                          have hg_235 := hb_2282 _ _ hge_76
                          have hg_236 := hb_2282 _ _ hg_spare_70
                          have hg_237 := hb_2282 _ _ hg_51
                          have hg_238 := hb_2282 _ _ hg_52
                          have hg_239 := hb_2282 _ _ hg_53
                          have hg_240 := hb_2282 _ _ hg_54
                          have hg_241 := hb_2282 _ _ hg_55
                          have hg_242 := hb_2282 _ _ hg_56
                          have hg_243 := hb_2282 _ _ hg_57
                          have hg_244 := hb_2282 _ _ hg_58
                          have hg_245 := hb_2282 _ _ hg_59
                          have hg_246 := hb_2282 _ _ hg_60
                          have hd_247 := jDcc.grow (hh_228.iv 0 rfl) hb_2282 hN_228 (by decide)
                          have hh_248 := hh_228.sub (L1 := [(bo, 2, 1, .int qc_228), (bo, 2, 0, .ref qa_228), (ret_12, 3, 11, .null), (ret_12, 3, 10, .int qk_182), (ret_12, 3, 4, .int qs_177), (ret_12, 3, 3, .int length_181), (kernel_173, 7, 1, .ref syntax_176), (r0, 13, 5, .ref kernel_173), (ret_12, 3, 5, .ref yb_76), (ret_12, 3, 6, .ref ye_76), (ret_12, 3, 1, .int r_74), (r0, 13, 15, .ref spare_70), (op, 1, 2, .int qz_47), (r0, 13, 4, .ref bo), (r0, 13, 3, .ref ou), (r0, 13, 2, .ref js), (js, 6, 7, .int pv), (js, 6, 8, .int pu), (js, 6, 0, .ref wk), (js, 6, 1, .ref wi), (js, 6, 2, .ref wz), (js, 6, 4, .ref jkf), (js, 6, 5, .ref jks), (r0, 13, 1, .ref fm), (fm, 4, 1, .int fl), (r0, 13, 7, .ref op)]) [0, 1, 2, 3, 4, 5, 6, 7, 8, 9, 10, 11, 12, 13, 14, 15, 16, 17, 18, 19, 20, 21, 22, 23, 24, 25] rfl (M1 := [(yb_76, 171, 40, ca 1, gb_177), (ye_76, 172, 40, ca 1, ge_177), (wk, 140, 1502, ca 1, fk), (wi, 141, 1502, ca 1, fi), (wz, 142, 1502, ca 1, fz), (jkf, 144, 1502, ca 1, fa), (jks, 145, 1502, ca 1, fs)]) [0, 1, 2, 3, 4, 5, 6] rfl (I1 := [(jFl, jLs dC dI ca G_47 3 none)]) [1] rfl
                          clear hh_228
                          have hh_249 := hh_248.addI (jDcc.ie hd_247)
                          clear hh_248
                          have hd_250 := jLs.grow (hh_249.iv 1 rfl) hb_2282 hN_228 (by decide)
                          have hh_251 := hh_249.sub (L1 := [(bo, 2, 1, .int qc_228), (bo, 2, 0, .ref qa_228), (ret_12, 3, 11, .null), (ret_12, 3, 10, .int qk_182), (ret_12, 3, 4, .int qs_177), (ret_12, 3, 3, .int length_181), (kernel_173, 7, 1, .ref syntax_176), (r0, 13, 5, .ref kernel_173), (ret_12, 3, 5, .ref yb_76), (ret_12, 3, 6, .ref ye_76), (ret_12, 3, 1, .int r_74), (r0, 13, 15, .ref spare_70), (op, 1, 2, .int qz_47), (r0, 13, 4, .ref bo), (r0, 13, 3, .ref ou), (r0, 13, 2, .ref js), (js, 6, 7, .int pv), (js, 6, 8, .int pu), (js, 6, 0, .ref wk), (js, 6, 1, .ref wi), (js, 6, 2, .ref wz), (js, 6, 4, .ref jkf), (js, 6, 5, .ref jks), (r0, 13, 1, .ref fm), (fm, 4, 1, .int fl), (r0, 13, 7, .ref op)]) [0, 1, 2, 3, 4, 5, 6, 7, 8, 9, 10, 11, 12, 13, 14, 15, 16, 17, 18, 19, 20, 21, 22, 23, 24, 25] rfl (M1 := [(yb_76, 171, 40, ca 1, gb_177), (ye_76, 172, 40, ca 1, ge_177), (wk, 140, 1502, ca 1, fk), (wi, 141, 1502, ca 1, fi), (wz, 142, 1502, ca 1, fz), (jkf, 144, 1502, ca 1, fa), (jks, 145, 1502, ca 1, fs)]) [0, 1, 2, 3, 4, 5, 6] rfl (I1 := [(jFdo, jDcc dC dI ca G_228 none phn_223)]) [0] rfl
                          clear hh_249
                          have hh_252 := hh_251.addI (jLs.ie hd_250)
                          clear hh_251
                          have hh_253 := hh_252.addIs hbE_228
                          have hd_254 := jOl.trL (hh_225.iv 1 rfl) hh_225.2.2.2.2.1 hbO_228 (by simp)
                          have hh_255 := hh_253.addI (jOl.ie (dC := dC) (dI := dI) (G0 := G0) (k := 2) (rs := [bo, ou]) (H0 := s.heap) (F := [(2, 0), (2, 1)]) (C := RX0) (T := TX0) (N := 2) rfl (by decide) hh_253.2.2.2.2.1 (hd_254))
                          clear hh_253
                          try simp only at hr_229
                          obtain ⟨hr_229_0, hr_229_1, hr_229_2, hr_229_3, hr_229_4⟩ := hr_229
                          have hh_256 := hh_255.wk (zc1 := (m_qa_228 - n_pa) / 16 + (ph + 200 * fl.toInt.toNat - phn_223) / 16) (zs1 := 2 * (m_qa_228 - n_pa) + (ph + 200 * fl.toInt.toNat - phn_223)) (by omega) (by omega)
                          clear hh_255
                          try clear hsz_228 htt_228 hrc_228 hrs_228
                          try clear hb_2284 hb_2285
                          have hsz_257 := hh_256.2.2.2.2.2.1
                          have htt_257 := hh_256.2.2.2.2.2.2.1
                          refine W.room (fun hrc_257 hrs_257 => ?_)
                          refine W.widen (k := LC - s.heap.size) (n := LS - jTot s.heap) (by omega) (by omega) ?_
                          rw [hQ]
                          exact W.vret hx hb hr (fun t ht hW => ⟨⟨(qc_228, qa_228, m_qa_228, phn_223, G_228), rfl, by (try dsimp only); exact ⟨(by first | omega | rfl | assumption | fail), (by first | omega | rfl | assumption | fail), (by first | omega | rfl | assumption | fail), (by first | omega | rfl | assumption | fail), (by first | assumption | fail | omega), (by first | omega | rfl | assumption | fail)⟩, ⟨hh_256.ra (by first | omega | (simp only; omega)) (by first | omega | (simp only; omega)) (M1 := [(bo, 2, 1, .int qc_228), (bo, 2, 0, .ref qa_228)]) [0, 1] rfl ht, hgq_228_0, hNn_228, by rw [ht]; exact hh_256.iv 0 rfl, by rw [ht]; exact hh_256.2.2.2.2.2.2.2.2.sub (L1 := [(jFy, jYb dC dI G_228), (jFl, jLs dC dI ca G_228 3 none), (jFdo, jDcc dC dI ca G_228 none phn_223)]) [1, 2, 3] rfl⟩⟩, by rw [ht]; try exact hh_256.1.1, fun q h9 hq => by rw [ht]; try exact hh_256.1.2.1 q h9 hq⟩) hh_256.1.2.2 dX11_changeDocument_259
                  · skip
                    have c_46' : v6_43.toInt < r_45.toInt := jb_ge_n (rfl) (rfl) c_46
                    first | (have hr_45q := hr_45.resolve_left (by omega); clear hr_45) | (have hr_45q := hr_45.resolve_right (by omega); clear hr_45) | try clear hr_45
                    refine lv_aload_n hx hb dX11_changeDocument_158 rfl (lv_at hl 0 rfl) ?_
                    refine lv_iload hx hb dX11_changeDocument_159 (lv_at hl 5 rfl) ?_
                    have hsz_258 := hh_44.2.2.2.2.2.1
                    have htt_258 := hh_44.2.2.2.2.2.2.1
                    refine W.room (fun hrc_258 hrs_258 => ?_)
                    refine va_calli (A0 := jA base) (H0 := s.heap) (va_runV (As := [.int v5_43]) (rest := []) ⟨hx, hb, hml, hown, hts⟩ (uX11_makeChange l dC dI ca base B hB hAp hB3 hB6 hB13 hB101 hB140 hB141 hB142 hB143 hB144 hB145 hB146 G0 H_44 r0 v5_43 js pv pu wk wi wz jks fk fi fz fs) (cwV 1 hts (jgV (jWr_41 _ (List.mem_of_getElem? (i := 16) rfl)) (jWr_41 _ (List.mem_of_getElem? (i := 17) rfl)) (jWr_41 _ (List.mem_of_getElem? (i := 18) rfl)) (jWr_1 _ (List.mem_of_getElem? (i := 2) rfl)) (jWr_41 _ (List.mem_of_getElem? (i := 19) rfl))) rfl rfl rfl (by decide +kernel) ⟨by rw [← hR]; exact Nat.le_of_ble_eq_true rfl, by rw [← hR]; exact Nat.le_of_ble_eq_true rfl⟩) ⟨fun a U g mk q => by obtain ⟨q0, q1, q2, qK, q10, q11, q12, q13, q14, q15, q16, q17, q18⟩ := q; exact ⟨q0, q1, q2, jG.calling g mk a qK, q10, q11, q12, q13, q14, q15, q16, q17, q18⟩, hh_44.recv (C := RX11) (T := TX11) (N := 19) hB13 rfl (by decide) hg_r0 hK, fun U hU hW => ⟨rfl, hU, hh_44.2.1, hG.step hW hU hh_44.1, hg_r0, hg_js, hg_wk, hg_wi, hg_wz, hg_jks, (hh_44.2.2.1.sub (L1 := [(r0, 13, 2, .ref js), (js, 6, 7, .int pv), (js, 6, 8, .int pu), (js, 6, 0, .ref wk), (js, 6, 1, .ref wi), (js, 6, 2, .ref wz), (js, 6, 5, .ref jks)]) [5, 6, 7, 8, 9, 10, 12] rfl), (hh_44.2.2.2.2.2.2.2.1.sub (L1 := [(wk, 140, 1502, ca 1, fk), (wi, 141, 1502, ca 1, fi), (wz, 142, 1502, ca 1, fz), (jks, 145, 1502, ca 1, fs)]) [0, 1, 2, 4] rfl), ⟨(by first | omega | rfl | assumption | fail), (by first | omega | rfl | assumption | fail), (by first | omega | rfl | assumption | fail), (by first | omega | rfl | assumption | fail), (by first | assumption | fail | omega), (by first | assumption | fail | omega)⟩⟩⟩ rfl rfl hl.1 rfl (lv_room (Nat.le_of_ble_eq_true rfl)) dX11_changeDocument_161 ⟨by rw [hRc]; show _ + 0 ≤ _; omega, by rw [hRs]; show _ + 0 ≤ _; omega⟩) hh_44.1 (fun q _ h => h) (fun q h => h) (fun r_259 u_258 t_258 H_258 locs_258 ht_258 hvm_258 hr_259 hb_258 hz_258 hk_258 hS_258 => ?_)
                    rw [ht_258] at hb_258
                    obtain ⟨hb_2581, hb_2582, hb_2583, hb_2584, hb_2585⟩ := hb_258
                    have hh_258 : jSt (dC, dI) B base G0 G0 EX11_changeDocument s.heap 0 0 [(ret_12, 3, 1, .int version_22), (r0, 13, 4, .ref bo), (bo, 2, 1, .int pc), (bo, 2, 0, .ref pa), (r0, 13, 3, .ref ou), (r0, 13, 2, .ref js), (js, 6, 7, .int pv), (js, 6, 8, .int pu), (js, 6, 0, .ref wk), (js, 6, 1, .ref wi), (js, 6, 2, .ref wz), (js, 6, 4, .ref jkf), (js, 6, 5, .ref jks), (r0, 13, 1, .ref fm), (fm, 4, 1, .int fl), (r0, 13, 7, .ref op), (op, 1, 2, .int sz)] [(wk, 140, 1502, ca 1, fk), (wi, 141, 1502, ca 1, fi), (wz, 142, 1502, ca 1, fz), (jkf, 144, 1502, ca 1, fa), (jks, 145, 1502, ca 1, fs)] [(jFl, jLs dC dI ca G0 3 none), ([(2, 0), (2, 1)], jOl (dC, dI) G0 2 [bo, ou] s.heap), (jFy, jYb dC dI G0), (jFdo, jDcc dC dI ca G0 none ph)] H_258 locs_258 := ((hh_44.call hb_2581 hb_2582 hb_2583 hb_2584 hS_258 rfl (L1 := [(ret_12, 3, 1, .int version_22), (r0, 13, 4, .ref bo), (bo, 2, 1, .int pc), (bo, 2, 0, .ref pa), (r0, 13, 3, .ref ou), (r0, 13, 2, .ref js), (js, 6, 7, .int pv), (js, 6, 8, .int pu), (js, 6, 0, .ref wk), (js, 6, 1, .ref wi), (js, 6, 2, .ref wz), (js, 6, 4, .ref jkf), (js, 6, 5, .ref jks), (r0, 13, 1, .ref fm), (fm, 4, 1, .int fl), (r0, 13, 7, .ref op), (op, 1, 2, .int sz)]) [0, 1, 2, 3, 4, 5, 6, 7, 8, 9, 10, 11, 12, 13, 14, 15, 16] rfl rfl (M1 := [(wk, 140, 1502, ca 1, fk), (wi, 141, 1502, ca 1, fi), (wz, 142, 1502, ca 1, fz), (jkf, 144, 1502, ca 1, fa), (jks, 145, 1502, ca 1, fs)]) [0, 1, 2, 3, 4] rfl rfl (I1 := [(jFl, jLs dC dI ca G0 3 none), ([(2, 0), (2, 1)], jOl (dC, dI) G0 2 [bo, ou] s.heap), (jFy, jYb dC dI G0), (jFdo, jDcc dC dI ca G0 none ph)]) [0, 1, 2, 3] rfl rfl).more hb_2585)
                    clear hh_44 ht_258 hvm_258 hz_258 hk_258 hS_258 hb_2581 hb_2582 hb_2583 hb_2584 hb_2585
                    obtain ⟨hr_259b, hr_259p⟩ := hr_259
                    have hr_259po := jOr.of hr_259p
                    clear hr_259p
                    have hr_259p := hr_259po
                    clear hr_259po
                    have hr_259' := jb_01 hr_259b
                    refine lv_if_ne (tgt := 168) hx hb dX11_changeDocument_164 (by decide) (fun c_260 => ?_) (fun c_260 => ?_)
                    · skip
                      have c_260' : r_259.toInt ≠ 0 := jb_ne (rfl) ((by decide)) c_260
                      first | (have hr_259pq := hr_259p.resolve_left (by omega); clear hr_259p) | (have hr_259pq := hr_259p.resolve_right (by omega); clear hr_259p) | try clear hr_259p
                      refine lv_aload_n hx hb dX11_changeDocument_168 rfl (lv_at hl 0 rfl) ?_
                      refine j7_read hx hb hown hK (C := RX11) (T := TX11) (N := 19) rfl hly_13_2 hlk_28 (hh_258.at 5 rfl) dX11_changeDocument_169 ?_
                      refine lv_iload hx hb dX11_changeDocument_172 (lv_at hl 5 rfl) ?_
                      have hsz_261 := hh_258.2.2.2.2.2.1
                      have htt_261 := hh_258.2.2.2.2.2.2.1
                      refine W.room (fun hrc_261 hrs_261 => ?_)
                      refine va_calli (A0 := jA base) (H0 := s.heap) (va_runV (As := [.int v5_43]) (rest := []) ⟨hx, hb, hml, hown, hts⟩ (uX4_nextOf l dC dI ca base B hB hAp hB6 hB143 G0 H_258 js v5_43) (cwV 1 hts (jgV (jWr_41 _ (List.mem_of_getElem? (i := 21) rfl)) (jWr_41 _ (List.mem_of_getElem? (i := 22) rfl)) (jWr_41 _ (List.mem_of_getElem? (i := 23) rfl)) (jWr_1 _ (List.mem_of_getElem? (i := 22) rfl)) (jWr_42 _ (List.mem_of_getElem? (i := 0) rfl))) rfl rfl rfl (by decide +kernel) ⟨by rw [← hR]; exact Nat.le_of_ble_eq_true rfl, by rw [← hR]; exact Nat.le_of_ble_eq_true rfl⟩) ⟨fun a U g mk q => by obtain ⟨q0, q1, q2, qK, q10, q11, q12⟩ := q; exact ⟨q0, q1, q2, jG.calling g mk a qK, q10, q11, q12⟩, hh_258.recv (C := RX4) (T := TX4) (N := 12) hB6 rfl (by decide) hg_js hK, fun U hU hW => ⟨rfl, hU, hh_258.2.1, hG.step hW hU hh_258.1, hg_js, jP.nil, trivial⟩⟩ rfl rfl hl.1 rfl (lv_room (Nat.le_of_ble_eq_true rfl)) dX11_changeDocument_174 ⟨by rw [hRc]; show _ + 0 ≤ _; omega, by rw [hRs]; show _ + 0 ≤ _; omega⟩) hh_258.1 (fun q _ h => h) (fun q h => h) (fun r_262 u_261 t_261 H_261 locs_261 ht_261 hvm_261 hr_262 hb_261 hz_261 hk_261 hS_261 => ?_)
                      rw [ht_261] at hb_261
                      obtain ⟨hb_2611, hb_2612, hb_2613, hb_2614, hb_2615⟩ := hb_261
                      have hh_261 : jSt (dC, dI) B base G0 G0 EX11_changeDocument s.heap 0 0 [(ret_12, 3, 1, .int version_22), (r0, 13, 4, .ref bo), (bo, 2, 1, .int pc), (bo, 2, 0, .ref pa), (r0, 13, 3, .ref ou), (r0, 13, 2, .ref js), (js, 6, 7, .int pv), (js, 6, 8, .int pu), (js, 6, 0, .ref wk), (js, 6, 1, .ref wi), (js, 6, 2, .ref wz), (js, 6, 4, .ref jkf), (js, 6, 5, .ref jks), (r0, 13, 1, .ref fm), (fm, 4, 1, .int fl), (r0, 13, 7, .ref op), (op, 1, 2, .int sz)] [(wk, 140, 1502, ca 1, fk), (wi, 141, 1502, ca 1, fi), (wz, 142, 1502, ca 1, fz), (jkf, 144, 1502, ca 1, fa), (jks, 145, 1502, ca 1, fs)] [(jFl, jLs dC dI ca G0 3 none), ([(2, 0), (2, 1)], jOl (dC, dI) G0 2 [bo, ou] s.heap), (jFy, jYb dC dI G0), (jFdo, jDcc dC dI ca G0 none ph)] H_261 locs_261 := ((hh_258.call hb_2611 hb_2612 hb_2613 hb_2614 hS_261 rfl (L1 := [(ret_12, 3, 1, .int version_22), (r0, 13, 4, .ref bo), (bo, 2, 1, .int pc), (bo, 2, 0, .ref pa), (r0, 13, 3, .ref ou), (r0, 13, 2, .ref js), (js, 6, 7, .int pv), (js, 6, 8, .int pu), (js, 6, 0, .ref wk), (js, 6, 1, .ref wi), (js, 6, 2, .ref wz), (js, 6, 4, .ref jkf), (js, 6, 5, .ref jks), (r0, 13, 1, .ref fm), (fm, 4, 1, .int fl), (r0, 13, 7, .ref op), (op, 1, 2, .int sz)]) [0, 1, 2, 3, 4, 5, 6, 7, 8, 9, 10, 11, 12, 13, 14, 15, 16] rfl rfl (M1 := [(wk, 140, 1502, ca 1, fk), (wi, 141, 1502, ca 1, fi), (wz, 142, 1502, ca 1, fz), (jkf, 144, 1502, ca 1, fa), (jks, 145, 1502, ca 1, fs)]) [0, 1, 2, 3, 4] rfl rfl (I1 := [(jFl, jLs dC dI ca G0 3 none), ([(2, 0), (2, 1)], jOl (dC, dI) G0 2 [bo, ou] s.heap), (jFy, jYb dC dI G0), (jFdo, jDcc dC dI ca G0 none ph)]) [0, 1, 2, 3] rfl rfl).more hb_2615)
                      clear hh_258 ht_261 hvm_261 hz_261 hk_261 hS_261 hb_2611 hb_2612 hb_2613 hb_2614 hb_2615
                      refine lv_istore (lv' := [(5, .int r_262), (0, .ref r0), (1, .int r_3), (2, .int r_7), (3, .int r_9), (4, .ref ret_12), (6, .int v6_43)]) hx hb dX11_changeDocument_177 hl (by decide) rfl (fun ls hl => ?_)
                      obtain ⟨z_263, ez_263⟩ : ∃ y : Int32, y = v6_43 + 1 := ⟨_, rfl⟩
                      refine lv_iinc (v := z_263) (lv' := [(6, .int z_263), (5, .int r_262), (0, .ref r0), (1, .int r_3), (2, .int r_7), (3, .int r_9), (4, .ref ret_12)]) hx hb dX11_changeDocument_179 hl (k := 6) rfl (by rw [ez_263]; rfl) (by decide) rfl (fun ls hl => ?_)
                      have hz_263 : z_263.toInt = v6_43.toInt + 1 := by rw [ez_263]; exact jb_iadd2 (rfl) (by decide) (by omega)
                      refine lv_goto (tgt := 145) hx hb dX11_changeDocument_182 (by decide) ?_
                      refine W.tight (c2 := 0) (n2 := 0) hh_261.2.2.2.2.2.1 hh_261.2.2.2.2.2.2.1 ?_
                      exact L145 r_262 z_263 _ _ hh_261 (by refine ⟨by omega, by omega, Or.inr (Or.resolve_left hr_259p (by omega))⟩) (by omega) _ (lv_sub hl [2, 3, 4, 5, 6, 1, 0] rfl)
                    · skip
                      have c_260' : r_259.toInt = 0 := jb_ne_n (rfl) ((by decide)) c_260
                      first | (have hr_259pq := hr_259p.resolve_left (by omega); clear hr_259p) | (have hr_259pq := hr_259p.resolve_right (by omega); clear hr_259p) | try clear hr_259p
                      have hsz_264 := hh_258.2.2.2.2.2.1
                      have htt_264 := hh_258.2.2.2.2.2.2.1
                      refine W.room (fun hrc_264 hrs_264 => ?_)
                      refine W.widen (k := LC - s.heap.size) (n := LS - jTot s.heap) (by omega) (by omega) ?_
                      rw [hQ]
                      exact W.vret hx hb hr (fun t ht hW => ⟨⟨(pc, pa, n_pa, ph, G0), rfl, by (try dsimp only); exact ⟨(by first | omega | rfl | assumption | fail), (by first | omega | rfl | assumption | fail), (by first | omega | rfl | assumption | fail), (by first | omega | rfl | assumption | fail), (by first | assumption | fail | omega), (by first | omega | rfl | assumption | fail)⟩, ⟨hh_258.ra (by first | omega | (simp only; omega)) (by first | omega | (simp only; omega)) (M1 := [(bo, 2, 1, .int pc), (bo, 2, 0, .ref pa)]) [2, 3] rfl ht, hg_pa, jNk.rf, by rw [ht]; exact hh_258.iv 1 rfl, by rw [ht]; exact hh_258.2.2.2.2.2.2.2.2.sub (L1 := [(jFy, jYb dC dI G0), (jFl, jLs dC dI ca G0 3 none), (jFdo, jDcc dC dI ca G0 none ph)]) [2, 0, 3] rfl⟩⟩, by rw [ht]; try exact hh_258.1.1, fun q h9 hq => by rw [ht]; try exact hh_258.1.2.1 q h9 hq⟩) hh_258.1.2.2 dX11_changeDocument_167
              refine W.tight (c2 := 0) (n2 := 0) hh_41.2.2.2.2.2.1 hh_41.2.2.2.2.2.2.1 ?_
              exact L145 (9 - (0 : Int32).toInt : Int).toNat.succ r_42 0 _ _ (hh_41.sub (L1 := [(ret_12, 3, 1, .int version_22), (r0, 13, 4, .ref bo), (bo, 2, 1, .int pc), (bo, 2, 0, .ref pa), (r0, 13, 3, .ref ou), (r0, 13, 2, .ref js), (js, 6, 7, .int pv), (js, 6, 8, .int pu), (js, 6, 0, .ref wk), (js, 6, 1, .ref wi), (js, 6, 2, .ref wz), (js, 6, 4, .ref jkf), (js, 6, 5, .ref jks), (r0, 13, 1, .ref fm), (fm, 4, 1, .int fl), (r0, 13, 7, .ref op), (op, 1, 2, .int sz)]) [1, 2, 3, 4, 5, 6, 7, 8, 9, 10, 11, 12, 13, 14, 15, 16, 17] rfl (M1 := [(wk, 140, 1502, ca 1, fk), (wi, 141, 1502, ca 1, fi), (wz, 142, 1502, ca 1, fz), (jkf, 144, 1502, ca 1, fa), (jks, 145, 1502, ca 1, fs)]) [0, 1, 2, 3, 4] rfl (I1 := [(jFl, jLs dC dI ca G0 3 none), ([(2, 0), (2, 1)], jOl (dC, dI) G0 2 [bo, ou] s.heap), (jFy, jYb dC dI G0), (jFdo, jDcc dC dI ca G0 none ph)]) [0, 1, 2, 3] rfl) (⟨(by first | omega | rfl | assumption | fail), (by first | omega | rfl | assumption | fail), (by first | assumption | fail | omega)⟩) (by omega) _ (lv_sub hl [6, 5, 4, 3, 2, 1, 0] rfl)
            · skip
              have c_35' : r_34.toInt > 8 := jb_le_n (rfl) ((by decide)) c_35
              first | (have hr_34q := hr_34.resolve_left (by omega); clear hr_34) | (have hr_34q := hr_34.resolve_right (by omega); clear hr_34) | try clear hr_34
              first | (have hr_9_2q := hr_9_2.resolve_left (by omega); clear hr_9_2) | (have hr_9_2q := hr_9_2.resolve_right (by omega); clear hr_9_2) | skip
              first | (have hr_5_2q := hr_5_2.resolve_left (by omega); clear hr_5_2) | (have hr_5_2q := hr_5_2.resolve_right (by omega); clear hr_5_2) | try clear hr_5_2
              first | (have hr_3_2q := hr_3_2.resolve_left (by omega); clear hr_3_2) | (have hr_3_2q := hr_3_2.resolve_right (by omega); clear hr_3_2) | skip
              have hsz_265 := hh_33.2.2.2.2.2.1
              have htt_265 := hh_33.2.2.2.2.2.2.1
              refine W.room (fun hrc_265 hrs_265 => ?_)
              refine W.widen (k := LC - s.heap.size) (n := LS - jTot s.heap) (by omega) (by omega) ?_
              rw [hQ]
              exact W.vret hx hb hr (fun t ht hW => ⟨⟨(pc, pa, n_pa, ph, G0), rfl, by (try dsimp only); exact ⟨(by first | omega | rfl | assumption | fail), (by first | omega | rfl | assumption | fail), (by first | omega | rfl | assumption | fail), (by first | omega | rfl | assumption | fail), (by first | assumption | fail | omega), (by first | omega | rfl | assumption | fail)⟩, ⟨hh_33.ra (by first | omega | (simp only; omega)) (by first | omega | (simp only; omega)) (M1 := [(bo, 2, 1, .int pc), (bo, 2, 0, .ref pa)]) [2, 3] rfl ht, hg_pa, jNk.rf, by rw [ht]; exact hh_33.iv 1 rfl, by rw [ht]; exact hh_33.2.2.2.2.2.2.2.2.sub (L1 := [(jFy, jYb dC dI G0), (jFl, jLs dC dI ca G0 3 none), (jFdo, jDcc dC dI ca G0 none ph)]) [2, 0, 3] rfl⟩⟩, by rw [ht]; try exact hh_33.1.1, fun q h9 hq => by rw [ht]; try exact hh_33.1.2.1 q h9 hq⟩) hh_33.1.2.2 dX11_changeDocument_122
