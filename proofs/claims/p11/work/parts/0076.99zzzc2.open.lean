section
theorem dX11_openDocument_0 : decode cX11_openDocument 0 = .ok (.aload_n 0, 1) := by decide +kernel
theorem dX11_openDocument_1 : decode cX11_openDocument 1 = .ok (.getfield 28, 3) := by decide +kernel
theorem dX11_openDocument_4 : decode cX11_openDocument 4 = .ok (.aload_n 0, 1) := by decide +kernel
theorem dX11_openDocument_5 : decode cX11_openDocument 5 = .ok (.getfield 28, 3) := by decide +kernel
theorem dX11_openDocument_8 : decode cX11_openDocument 8 = .ok (.iconst 0, 1) := by decide +kernel
theorem dX11_openDocument_9 : decode cX11_openDocument 9 = .ok (.ldc_w 271, 3) := by decide +kernel
theorem dX11_openDocument_12 : decode cX11_openDocument 12 = .ok (.invokevirtual 260, 3) := by decide +kernel
theorem dX11_openDocument_15 : decode cX11_openDocument 15 = .ok (.ldc_w 344, 3) := by decide +kernel
theorem dX11_openDocument_18 : decode cX11_openDocument 18 = .ok (.invokevirtual 260, 3) := by decide +kernel
theorem dX11_openDocument_21 : decode cX11_openDocument 21 = .ok (.istore_n 1, 1) := by decide +kernel
theorem dX11_openDocument_22 : decode cX11_openDocument 22 = .ok (.aload_n 0, 1) := by decide +kernel
theorem dX11_openDocument_23 : decode cX11_openDocument 23 = .ok (.getfield 28, 3) := by decide +kernel
theorem dX11_openDocument_26 : decode cX11_openDocument 26 = .ok (.iload_n 1, 1) := by decide +kernel
theorem dX11_openDocument_27 : decode cX11_openDocument 27 = .ok (.ldc_w 346, 3) := by decide +kernel
theorem dX11_openDocument_30 : decode cX11_openDocument 30 = .ok (.invokevirtual 260, 3) := by decide +kernel
theorem dX11_openDocument_33 : decode cX11_openDocument 33 = .ok (.istore_n 2, 1) := by decide +kernel
theorem dX11_openDocument_34 : decode cX11_openDocument 34 = .ok (.aload_n 0, 1) := by decide +kernel
theorem dX11_openDocument_35 : decode cX11_openDocument 35 = .ok (.getfield 28, 3) := by decide +kernel
theorem dX11_openDocument_38 : decode cX11_openDocument 38 = .ok (.iload_n 1, 1) := by decide +kernel
theorem dX11_openDocument_39 : decode cX11_openDocument 39 = .ok (.ldc_w 354, 3) := by decide +kernel
theorem dX11_openDocument_42 : decode cX11_openDocument 42 = .ok (.invokevirtual 260, 3) := by decide +kernel
theorem dX11_openDocument_45 : decode cX11_openDocument 45 = .ok (.istore_n 3, 1) := by decide +kernel
theorem dX11_openDocument_46 : decode cX11_openDocument 46 = .ok (.aload_n 0, 1) := by decide +kernel
theorem dX11_openDocument_47 : decode cX11_openDocument 47 = .ok (.getfield 28, 3) := by decide +kernel
theorem dX11_openDocument_50 : decode cX11_openDocument 50 = .ok (.iload_n 1, 1) := by decide +kernel
theorem dX11_openDocument_51 : decode cX11_openDocument 51 = .ok (.ldc_w 355, 3) := by decide +kernel
theorem dX11_openDocument_54 : decode cX11_openDocument 54 = .ok (.invokevirtual 260, 3) := by decide +kernel
theorem dX11_openDocument_57 : decode cX11_openDocument 57 = .ok (.istore 4, 2) := by decide +kernel
theorem dX11_openDocument_59 : decode cX11_openDocument 59 = .ok (.aload_n 0, 1) := by decide +kernel
theorem dX11_openDocument_60 : decode cX11_openDocument 60 = .ok (.getfield 28, 3) := by decide +kernel
theorem dX11_openDocument_63 : decode cX11_openDocument 63 = .ok (.iload_n 2, 1) := by decide +kernel
theorem dX11_openDocument_64 : decode cX11_openDocument 64 = .ok (.invokevirtual 283, 3) := by decide +kernel
theorem dX11_openDocument_67 : decode cX11_openDocument 67 = .ok (.iconst 3, 1) := by decide +kernel
theorem dX11_openDocument_68 : decode cX11_openDocument 68 = .ok (.if_icmp .ne 72, 3) := by decide +kernel
theorem dX11_openDocument_71 : decode cX11_openDocument 71 = .ok (.aload_n 0, 1) := by decide +kernel
theorem dX11_openDocument_72 : decode cX11_openDocument 72 = .ok (.getfield 28, 3) := by decide +kernel
theorem dX11_openDocument_75 : decode cX11_openDocument 75 = .ok (.iload_n 2, 1) := by decide +kernel
theorem dX11_openDocument_76 : decode cX11_openDocument 76 = .ok (.invokevirtual 356, 3) := by decide +kernel
theorem dX11_openDocument_79 : decode cX11_openDocument 79 = .ok (.iconst 1, 1) := by decide +kernel
theorem dX11_openDocument_80 : decode cX11_openDocument 80 = .ok (.if_icmp .lt 60, 3) := by decide +kernel
theorem dX11_openDocument_83 : decode cX11_openDocument 83 = .ok (.aload_n 0, 1) := by decide +kernel
theorem dX11_openDocument_84 : decode cX11_openDocument 84 = .ok (.getfield 28, 3) := by decide +kernel
theorem dX11_openDocument_87 : decode cX11_openDocument 87 = .ok (.iload_n 2, 1) := by decide +kernel
theorem dX11_openDocument_88 : decode cX11_openDocument 88 = .ok (.invokevirtual 356, 3) := by decide +kernel
theorem dX11_openDocument_91 : decode cX11_openDocument 91 = .ok (.bipush 40, 2) := by decide +kernel
theorem dX11_openDocument_93 : decode cX11_openDocument 93 = .ok (.if_icmp .gt 47, 3) := by decide +kernel
theorem dX11_openDocument_96 : decode cX11_openDocument 96 = .ok (.aload_n 0, 1) := by decide +kernel
theorem dX11_openDocument_97 : decode cX11_openDocument 97 = .ok (.getfield 28, 3) := by decide +kernel
theorem dX11_openDocument_100 : decode cX11_openDocument 100 = .ok (.iload_n 3, 1) := by decide +kernel
theorem dX11_openDocument_101 : decode cX11_openDocument 101 = .ok (.invokevirtual 283, 3) := by decide +kernel
theorem dX11_openDocument_104 : decode cX11_openDocument 104 = .ok (.iconst 4, 1) := by decide +kernel
theorem dX11_openDocument_105 : decode cX11_openDocument 105 = .ok (.if_icmp .ne 35, 3) := by decide +kernel
theorem dX11_openDocument_108 : decode cX11_openDocument 108 = .ok (.aload_n 0, 1) := by decide +kernel
theorem dX11_openDocument_109 : decode cX11_openDocument 109 = .ok (.getfield 28, 3) := by decide +kernel
theorem dX11_openDocument_112 : decode cX11_openDocument 112 = .ok (.iload 4, 2) := by decide +kernel
theorem dX11_openDocument_114 : decode cX11_openDocument 114 = .ok (.invokevirtual 283, 3) := by decide +kernel
theorem dX11_openDocument_117 : decode cX11_openDocument 117 = .ok (.iconst 3, 1) := by decide +kernel
theorem dX11_openDocument_118 : decode cX11_openDocument 118 = .ok (.if_icmp .ne 22, 3) := by decide +kernel
theorem dX11_openDocument_121 : decode cX11_openDocument 121 = .ok (.aload_n 0, 1) := by decide +kernel
theorem dX11_openDocument_122 : decode cX11_openDocument 122 = .ok (.getfield 28, 3) := by decide +kernel
theorem dX11_openDocument_125 : decode cX11_openDocument 125 = .ok (.iload 4, 2) := by decide +kernel
theorem dX11_openDocument_127 : decode cX11_openDocument 127 = .ok (.invokevirtual 356, 3) := by decide +kernel
theorem dX11_openDocument_130 : decode cX11_openDocument 130 = .ok (.sipush 1500, 3) := by decide +kernel
theorem dX11_openDocument_133 : decode cX11_openDocument 133 = .ok (.if_icmp .gt 7, 3) := by decide +kernel
theorem dX11_openDocument_136 : decode cX11_openDocument 136 = .ok (.iconst 1, 1) := by decide +kernel
theorem dX11_openDocument_137 : decode cX11_openDocument 137 = .ok (.goto 4, 3) := by decide +kernel
theorem dX11_openDocument_140 : decode cX11_openDocument 140 = .ok (.iconst 0, 1) := by decide +kernel
theorem dX11_openDocument_141 : decode cX11_openDocument 141 = .ok (.istore 5, 2) := by decide +kernel
theorem dX11_openDocument_143 : decode cX11_openDocument 143 = .ok (.iload 5, 2) := by decide +kernel
theorem dX11_openDocument_145 : decode cX11_openDocument 145 = .ok (.ifCond .eq 23, 3) := by decide +kernel
theorem dX11_openDocument_148 : decode cX11_openDocument 148 = .ok (.aload_n 0, 1) := by decide +kernel
theorem dX11_openDocument_149 : decode cX11_openDocument 149 = .ok (.invokevirtual 359, 3) := by decide +kernel
theorem dX11_openDocument_152 : decode cX11_openDocument 152 = .ok (.ifnonnull 16, 3) := by decide +kernel
theorem dX11_openDocument_155 : decode cX11_openDocument 155 = .ok (.aload_n 0, 1) := by decide +kernel
theorem dX11_openDocument_156 : decode cX11_openDocument 156 = .ok (.getfield 61, 3) := by decide +kernel
theorem dX11_openDocument_159 : decode cX11_openDocument 159 = .ok (.invokeinterface 142 1, 5) := by decide +kernel
theorem dX11_openDocument_164 : decode cX11_openDocument 164 = .ok (.iconst 3, 1) := by decide +kernel
theorem dX11_openDocument_165 : decode cX11_openDocument 165 = .ok (.if_icmp .lt 4, 3) := by decide +kernel
theorem dX11_openDocument_168 : decode cX11_openDocument 168 = .ok (.return_, 1) := by decide +kernel
theorem dX11_openDocument_169 : decode cX11_openDocument 169 = .ok (.new 71, 3) := by decide +kernel
theorem dX11_openDocument_172 : decode cX11_openDocument 172 = .ok (.dup, 1) := by decide +kernel
theorem dX11_openDocument_173 : decode cX11_openDocument 173 = .ok (.invokespecial 81, 3) := by decide +kernel
theorem dX11_openDocument_176 : decode cX11_openDocument 176 = .ok (.astore 6, 2) := by decide +kernel
theorem dX11_openDocument_178 : decode cX11_openDocument 178 = .ok (.aload 6, 2) := by decide +kernel
theorem dX11_openDocument_180 : decode cX11_openDocument 180 = .ok (.aload_n 0, 1) := by decide +kernel
theorem dX11_openDocument_181 : decode cX11_openDocument 181 = .ok (.getfield 28, 3) := by decide +kernel
theorem dX11_openDocument_184 : decode cX11_openDocument 184 = .ok (.iload_n 2, 1) := by decide +kernel
theorem dX11_openDocument_185 : decode cX11_openDocument 185 = .ok (.invokevirtual 363, 3) := by decide +kernel
theorem dX11_openDocument_188 : decode cX11_openDocument 188 = .ok (.putfield 348, 3) := by decide +kernel
theorem dX11_openDocument_191 : decode cX11_openDocument 191 = .ok (.aload 6, 2) := by decide +kernel
theorem dX11_openDocument_193 : decode cX11_openDocument 193 = .ok (.aload_n 0, 1) := by decide +kernel
theorem dX11_openDocument_194 : decode cX11_openDocument 194 = .ok (.getfield 28, 3) := by decide +kernel
theorem dX11_openDocument_197 : decode cX11_openDocument 197 = .ok (.iload_n 3, 1) := by decide +kernel
theorem dX11_openDocument_198 : decode cX11_openDocument 198 = .ok (.invokevirtual 367, 3) := by decide +kernel
theorem dX11_openDocument_201 : decode cX11_openDocument 201 = .ok (.putfield 162, 3) := by decide +kernel
theorem dX11_openDocument_204 : decode cX11_openDocument 204 = .ok (.aload 6, 2) := by decide +kernel
theorem dX11_openDocument_206 : decode cX11_openDocument 206 = .ok (.iconst 0, 1) := by decide +kernel
theorem dX11_openDocument_207 : decode cX11_openDocument 207 = .ok (.iconst 0, 1) := by decide +kernel
theorem dX11_openDocument_208 : decode cX11_openDocument 208 = .ok (.aload_n 0, 1) := by decide +kernel
theorem dX11_openDocument_209 : decode cX11_openDocument 209 = .ok (.getfield 28, 3) := by decide +kernel
theorem dX11_openDocument_212 : decode cX11_openDocument 212 = .ok (.iload 4, 2) := by decide +kernel
theorem dX11_openDocument_214 : decode cX11_openDocument 214 = .ok (.invokevirtual 370, 3) := by decide +kernel
theorem dX11_openDocument_217 : decode cX11_openDocument 217 = .ok (.pop, 1) := by decide +kernel
theorem dX11_openDocument_218 : decode cX11_openDocument 218 = .ok (.aload 6, 2) := by decide +kernel
theorem dX11_openDocument_220 : decode cX11_openDocument 220 = .ok (.aload_n 0, 1) := by decide +kernel
theorem dX11_openDocument_221 : decode cX11_openDocument 221 = .ok (.getfield 41, 3) := by decide +kernel
theorem dX11_openDocument_224 : decode cX11_openDocument 224 = .ok (.getfield 203, 3) := by decide +kernel
theorem dX11_openDocument_227 : decode cX11_openDocument 227 = .ok (.invokevirtual 207, 3) := by decide +kernel
theorem dX11_openDocument_230 : decode cX11_openDocument 230 = .ok (.aload_n 0, 1) := by decide +kernel
theorem dX11_openDocument_231 : decode cX11_openDocument 231 = .ok (.getfield 61, 3) := by decide +kernel
theorem dX11_openDocument_234 : decode cX11_openDocument 234 = .ok (.aload 6, 2) := by decide +kernel
theorem dX11_openDocument_236 : decode cX11_openDocument 236 = .ok (.invokeinterface 374 2, 5) := by decide +kernel
theorem dX11_openDocument_241 : decode cX11_openDocument 241 = .ok (.pop, 1) := by decide +kernel
theorem dX11_openDocument_242 : decode cX11_openDocument 242 = .ok (.aload 6, 2) := by decide +kernel
theorem dX11_openDocument_244 : decode cX11_openDocument 244 = .ok (.getfield 171, 3) := by decide +kernel
theorem dX11_openDocument_247 : decode cX11_openDocument 247 = .ok (.aload 6, 2) := by decide +kernel
theorem dX11_openDocument_249 : decode cX11_openDocument 249 = .ok (.getfield 168, 3) := by decide +kernel
theorem dX11_openDocument_252 : decode cX11_openDocument 252 = .ok (.if_icmp .ne 10, 3) := by decide +kernel
theorem dX11_openDocument_255 : decode cX11_openDocument 255 = .ok (.aload_n 0, 1) := by decide +kernel
theorem dX11_openDocument_256 : decode cX11_openDocument 256 = .ok (.aload 6, 2) := by decide +kernel
theorem dX11_openDocument_258 : decode cX11_openDocument 258 = .ok (.iconst 1, 1) := by decide +kernel
theorem dX11_openDocument_259 : decode cX11_openDocument 259 = .ok (.invokevirtual 378, 3) := by decide +kernel
theorem dX11_openDocument_262 : decode cX11_openDocument 262 = .ok (.return_, 1) := by decide +kernel
def EX11_openDocument : List (Nat × Nat) := [(1, 0), (1, 1), (1, 2), (2, 0), (2, 1), (3, 0), (3, 1), (3, 3), (3, 4), (3, 14), (3, 15), (3, 16), (8, 3), (12, 3), (13, 14), (101, 0), (102, 0), (132, 0), (133, 0), (171, 0), (172, 0), (196, 0), (221, 0), (222, 0), (223, 0), (293, 0)]
set_option maxHeartbeats 4000000 in
set_option maxRecDepth 20000 in
theorem uX11_openDocument (l : Launch) (dC : Nat → ClassId) (dI : Nat → Nat → Nat) (ca : Nat → ClassId) (base : Nat) (B : jF) (hB : jBok B) (hAp : jAp (dC, dI)) (hB1 : ∀ n G a H, B 1 n G a H ↔ jOb (dC, dI) 1 3 (F1 n G) a H) (hB2 : ∀ n G a H, B 2 n G a H ↔ jOb (dC, dI) 2 2 (F2 n G) a H) (hB3 : ∀ n G a H, B 3 n G a H ↔ jOb (dC, dI) 3 17 (F3 n G) a H) (hB4 : ∀ n G a H, B 4 n G a H ↔ jOb (dC, dI) 4 12 (F4 n G) a H) (hB6 : ∀ n G a H, B 6 n G a H ↔ jOb (dC, dI) 6 12 (F6 n G) a H) (hB7 : ∀ n G a H, B 7 n G a H ↔ jOb (dC, dI) 7 11 (F7 n G) a H) (hB8 : ∀ n G a H, B 8 n G a H ↔ jOb (dC, dI) 8 4 (F8 n G) a H) (hB10 : ∀ n G a H, B 10 n G a H ↔ jOb (dC, dI) 10 5 (F10 n G) a H) (hB11 : ∀ n G a H, B 11 n G a H ↔ jOb (dC, dI) 11 9 (F11 n G) a H) (hB12 : ∀ n G a H, B 12 n G a H ↔ jOb (dC, dI) 12 11 (F12b n G) a H) (hB13 : ∀ n G a H, B 13 n G a H ↔ jOb (dC, dI) 13 19 (F13 n G) a H) (hB101 : ∀ n G a H, B 101 n G a H ↔ jAr (dC, dI) (ca 1) (fun j z => True) n a H) (hB102 : ∀ n G a H, B 102 n G a H ↔ jAl (dC, dI) (ca 2) n a H) (hB132 : ∀ n G a H, B 132 n G a H ↔ jAr (dC, dI) (ca 1) (fun j z => 0 ≤ z.toInt ∧ z.toInt ≤ 10) n a H) (hB133 : ∀ n G a H, B 133 n G a H ↔ jAr (dC, dI) (ca 1) (fun j z => 0 ≤ z.toInt ∧ z.toInt ≤ 8192) n a H) (hB140 : ∀ n G a H, B 140 n G a H ↔ jAr (dC, dI) (ca 1) (fun j z => True) n a H) (hB141 : ∀ n G a H, B 141 n G a H ↔ jAr (dC, dI) (ca 1) (fun j z => True) n a H) (hB142 : ∀ n G a H, B 142 n G a H ↔ jAr (dC, dI) (ca 1) (fun j z => True) n a H) (hB143 : ∀ n G a H, B 143 n G a H ↔ jAr (dC, dI) (ca 1) (fun j z => True) n a H) (hB144 : ∀ n G a H, B 144 n G a H ↔ jAr (dC, dI) (ca 1) (fun j z => 0 ≤ z.toInt ∧ z.toInt ≤ 3000) n a H) (hB145 : ∀ n G a H, B 145 n G a H ↔ jAr (dC, dI) (ca 1) (fun j z => True) n a H) (hB146 : ∀ n G a H, B 146 n G a H ↔ jAr (dC, dI) (ca 1) (fun j z => True) n a H) (hB171 : ∀ n G a H, B 171 n G a H ↔ jAr (dC, dI) (ca 1) (fun j z => 0 ≤ z.toInt ∧ z.toInt ≤ 1500) n a H) (hB172 : ∀ n G a H, B 172 n G a H ↔ jAr (dC, dI) (ca 1) (fun j z => 0 ≤ z.toInt ∧ z.toInt ≤ 1500) n a H) (hB196 : ∀ n G a H, B 196 n G a H ↔ jAr (dC, dI) (ca 0) (fun j z => jBf j z) n a H) (hB210 : ∀ n G a H, B 210 n G a H ↔ jAq (dC, dI) (ca 6) (jQn 11 0) n G a H) (hB221 : ∀ n G a H, B 221 n G a H ↔ jAq (dC, dI) (ca 9) (jQn 3 0) n G a H) (hB222 : ∀ n G a H, B 222 n G a H ↔ jAq (dC, dI) (ca 9) (jQn 10 0) n G a H) (hB293 : ∀ n G a H, B 293 n G a H ↔ jAr (dC, dI) (ca 1) (fun j z => -1 ≤ z.toInt ∧ z.toInt ≤ 8191) n a H) (G0 : jT) (H0 : Heap) (r0 : Nat) (bo : Nat) (pc : Int32) (pa : Nat) (n_pa : Nat) (ou : Nat) (js : Nat) (pv : Int32) (pu : Int32) (wk : Nat) (wi : Nat) (wz : Nat) (jkf : Nat) (jks : Nat) (fm : Nat) (fl : Int32) (op : Nat) (sz : Int32) (ph : Nat) (fk : Nat → Int32) (fi : Nat → Int32) (fz : Nat → Int32) (fa : Nat → Int32) (fs : Nat → Int32) (LC LS : Nat) : Met l yX11_openDocument (jw yX11_openDocument cX11_openDocument 7 none) ({ frames := 8, cells := LC - H0.size, slots := LS - jTot H0, locals := 232 }) (va_Pc [.ref r0] (fun U => U.heap = H0 ∧ jX B base G0 [] H0 ∧ jG dC dI ca base U ∧ jK2 dC dI ca U ∧ jK5 dC dI ca U ∧ jK6 U ∧ jK7 dC dI ca base U ∧ G0 r0 = some (13, 0) ∧ G0 bo = some (2, 0) ∧ G0 pa = some (196, n_pa) ∧ G0 ou = some (2, 20000) ∧ G0 js = some (6, 0) ∧ G0 wk = some (140, 1502) ∧ G0 wi = some (141, 1502) ∧ G0 wz = some (142, 1502) ∧ G0 jkf = some (144, 1502) ∧ G0 jks = some (145, 1502) ∧ G0 fm = some (4, 0) ∧ G0 op = some (1, 1) ∧ jP (dC, dI) G0 H0 [(r0, 13, 4, .ref bo), (bo, 2, 1, .int pc), (bo, 2, 0, .ref pa), (r0, 13, 3, .ref ou), (r0, 13, 2, .ref js), (js, 6, 7, .int pv), (js, 6, 8, .int pu), (js, 6, 0, .ref wk), (js, 6, 1, .ref wi), (js, 6, 2, .ref wz), (js, 6, 4, .ref jkf), (js, 6, 5, .ref jks), (r0, 13, 1, .ref fm), (fm, 4, 1, .int fl), (r0, 13, 7, .ref op), (op, 1, 2, .int sz)] ∧ jMc (dC, dI) G0 H0 [(wk, 140, 1502, ca 1, fk), (wi, 141, 1502, ca 1, fi), (wz, 142, 1502, ca 1, fz), (jkf, 144, 1502, ca 1, fa), (jks, 145, 1502, ca 1, fs)] ∧ jIs (dC, dI) G0 H0 [(jFy, jYb dC dI G0), (jFl, jLs dC dI ca G0 3 none), (jFdo, jDcc dC dI ca G0 none ph)] ∧ H0.size + (1048576 - n_pa) / 16 + 1 + (ph + 200 * fl.toInt.toNat) / 16 ≤ LC ∧ jTot H0 + 2 * (1048576 - n_pa) + ph + 200 * fl.toInt.toNat ≤ LS ∧ 0 ≤ pc.toInt ∧ pc.toInt ≤ n_pa ∧ 16 ≤ n_pa ∧ n_pa ≤ 1048576 ∧ jPw n_pa ∧ 0 ≤ pv.toInt ∧ pv.toInt ≤ 1502 ∧ 0 ≤ pu.toInt ∧ pu.toInt ≤ 3000 ∧ jJq fk fi fz pv.toInt ∧ jJu fk fz pv.toInt pu.toInt ∧ jMg (fk, fi, fz, fa, fs) pv.toInt pu.toInt fl.toInt 20 ∧ 0 ≤ fl.toInt ∧ 0 ≤ sz.toInt ∧ sz.toInt ≤ 40)) (va_Qv (S := Int32 × Nat × Nat × Nat × jT) (fun u => 0 ≤ u.1.toInt ∧ u.1.toInt ≤ u.2.2.1 ∧ n_pa ≤ u.2.2.1 ∧ u.2.2.1 ≤ 1048576 ∧ jPw u.2.2.1 ∧ u.2.2.2.1 ≤ ph + 200 * fl.toInt) (fun u t => jRa (dC, dI) B base G0 u.2.2.2.2 EX11_openDocument H0 ((u.2.2.1 - n_pa) / 16 + (ph + 200 * fl.toInt.toNat - u.2.2.2.1) / 16) (2 * (u.2.2.1 - n_pa) + (ph + 200 * fl.toInt.toNat - u.2.2.2.1)) [(bo, 2, 1, .int u.1), (bo, 2, 0, .ref u.2.1)] t.heap ∧ u.2.2.2.2 u.2.1 = some (196, u.2.2.1) ∧ (jNk [0, 1, 2, 4, 5, 6, 7, 8, 9, 10, 11, 12, 13, 14, 15, 16]) G0 u.2.2.2.2 ∧ jOl (dC, dI) G0 2 [bo, ou] H0 t.heap ∧ jIs (dC, dI) u.2.2.2.2 t.heap [(jFy, jYb dC dI u.2.2.2.2), (jFl, jLs dC dI ca u.2.2.2.2 3 none), (jFdo, jDcc dC dI ca u.2.2.2.2 none (u.2.2.2.1))]) (jA base)) (LC - H0.size) (LS - jTot H0) (jA base) := by
  refine Met.ofW (cc := cX11_openDocument) (maxL := 7) (ret := none) (by decide) rfl ?_
  intro p e s m args below meth c s₁ Bd hml hv
  obtain ⟨rfl, hH0, hX, hG, hK2, hK5, hK6, hK7, hg_r0, hg_bo, hg_pa, hg_ou, hg_js, hg_wk, hg_wi, hg_wz, hg_jkf, hg_jks, hg_fm, hg_op, hP0, hM0, hI0, hLC0, hLS0, hp0, hp1, hp2, hp3, hp4, hp5, hp6, hp7, hp8, hp9, hp10, hp11, hp12, hp13, hp14⟩ := hv
  have hK := hG.1
  have hx := Bd.exec
  have hb := Bd.bytes
  have hr := Bd.returns
  have hts := atoms_spec (ws := (jw yX11_openDocument cX11_openDocument 7 none)) Bd.pre
  have htw : ∀ w ∈ jWl, w.before _ s = true := fun w h => hts w (List.mem_cons_of_mem _ h)
  have hown : s.vm.findClass RX11 = some m.cls := findClass_of_methodNamed Bd.named
  have hlocks := Bd.notSynchronized
  obtain ⟨Q, hQ⟩ : ∃ Q, Q = MQ below (va_Qv (S := Int32 × Nat × Nat × Nat × jT) (fun u => 0 ≤ u.1.toInt ∧ u.1.toInt ≤ u.2.2.1 ∧ n_pa ≤ u.2.2.1 ∧ u.2.2.1 ≤ 1048576 ∧ jPw u.2.2.1 ∧ u.2.2.2.1 ≤ ph + 200 * fl.toInt) (fun u t => jRa (dC, dI) B base G0 u.2.2.2.2 EX11_openDocument H0 ((u.2.2.1 - n_pa) / 16 + (ph + 200 * fl.toInt.toNat - u.2.2.2.1) / 16) (2 * (u.2.2.1 - n_pa) + (ph + 200 * fl.toInt.toNat - u.2.2.2.1)) [(bo, 2, 1, .int u.1), (bo, 2, 0, .ref u.2.1)] t.heap ∧ u.2.2.2.2 u.2.1 = some (196, u.2.2.1) ∧ (jNk [0, 1, 2, 4, 5, 6, 7, 8, 9, 10, 11, 12, 13, 14, 15, 16]) G0 u.2.2.2.2 ∧ jOl (dC, dI) G0 2 [bo, ou] H0 t.heap ∧ jIs (dC, dI) u.2.2.2.2 t.heap [(jFy, jYb dC dI u.2.2.2.2), (jFl, jLs dC dI ca u.2.2.2.2 3 none), (jFdo, jDcc dC dI ca u.2.2.2.2 none (u.2.2.2.1))]) (jA base)) ([.ref r0] : List Value).toArray s (LC - H0.size) (LS - jTot H0) (jA base) := ⟨_, rfl⟩
  rw [← hQ]
  have hl := lv_entry ([.ref r0]) (n := 7) (Nat.le_of_ble_eq_true rfl)
  rw [lg_entry_eq]
  generalize (lg_sl ([.ref r0]) ++ List.replicate (7 - (lg_sl ([.ref r0])).length) Slot.unset).toArray = ls at hl ⊢
  have hl : lv_has ls 7 [(0, .ref r0)] := hl
  generalize hR : (headSpec (jw yX11_openDocument cX11_openDocument 7 none) ({ frames := 8, cells := LC - H0.size, slots := LS - jTot H0, locals := 232 })).room = R
  subst hH0
  have hh : jSt (dC, dI) B base G0 G0 EX11_openDocument s.heap 0 0 [(r0, 13, 4, .ref bo), (bo, 2, 1, .int pc), (bo, 2, 0, .ref pa), (r0, 13, 3, .ref ou), (r0, 13, 2, .ref js), (js, 6, 7, .int pv), (js, 6, 8, .int pu), (js, 6, 0, .ref wk), (js, 6, 1, .ref wi), (js, 6, 2, .ref wz), (js, 6, 4, .ref jkf), (js, 6, 5, .ref jks), (r0, 13, 1, .ref fm), (fm, 4, 1, .int fl), (r0, 13, 7, .ref op), (op, 1, 2, .int sz)] [(wk, 140, 1502, ca 1, fk), (wi, 141, 1502, ca 1, fi), (wz, 142, 1502, ca 1, fz), (jkf, 144, 1502, ca 1, fa), (jks, 145, 1502, ca 1, fs)] [(jFy, jYb dC dI G0), (jFl, jLs dC dI ca G0 3 none), (jFdo, jDcc dC dI ca G0 none ph)] s.heap [] := jSt.start hX hP0 hM0 hI0
  clear hX hP0
  have hk0 : (0 : Int32).toInt = 0 := by decide
  have hk1 : (1 : Int32).toInt = 1 := by decide
  have hk3 : (3 : Int32).toInt = 3 := by decide
  have hk4 : (4 : Int32).toInt = 4 := by decide
  have hk40 : (40 : Int32).toInt = 40 := by decide
  have hk1500 : (1500 : Int32).toInt = 1500 := by decide
  have hly_3_0 := htw (u_lay RX1 TX1 0) (jWc_wsX10 _ (u_in_lay (by decide)))
  have hly_3_1 := htw (u_lay RX1 TX1 1) (jWc_wsX10 _ (u_in_lay (by decide)))
  have hly_3_4 := htw (u_lay RX1 TX1 4) (jWc_wsX10 _ (u_in_lay (by decide)))
  have hly_3_10 := htw (u_lay RX1 TX1 10) (jWc_wsX10 _ (u_in_lay (by decide)))
  have hly_7_1 := htw (u_lay RX5 TX5 1) (jWc_wsX50 _ (u_in_lay (by decide)))
  have hly_13_2 := htw (u_lay RX11 TX11 2) (jWc_wsX110 _ (u_in_lay (by decide)))
  have hly_13_5 := htw (u_lay RX11 TX11 5) (jWc_wsX110 _ (u_in_lay (by decide)))
  have hly_13_7 := htw (u_lay RX11 TX11 7) (jWc_wsX110 _ (u_in_lay (by decide)))
  have hlk_28 := (htw (.fieldLink RX11 28 "ProofServer" "json" "LProofServer$Json;") (jWr_1 _ (List.mem_of_getElem? (i := 23) rfl)))
  obtain ⟨str271, rstr271, hstr2710⟩ := hG.str (o := RX11) (k := 271) (tx := "params") (List.mem_of_getElem? (i := 852) (by decide +kernel))
  have hstr271 : jStr base str271 6 s s.heap := hstr2710
  obtain ⟨str344, rstr344, hstr3440⟩ := hG.str (o := RX11) (k := 344) (tx := "textDocument") (List.mem_of_getElem? (i := 879) (by decide +kernel))
  have hstr344 : jStr base str344 12 s s.heap := hstr3440
  obtain ⟨str346, rstr346, hstr3460⟩ := hG.str (o := RX11) (k := 346) (tx := "uri") (List.mem_of_getElem? (i := 880) (by decide +kernel))
  have hstr346 : jStr base str346 3 s s.heap := hstr3460
  obtain ⟨str354, rstr354, hstr3540⟩ := hG.str (o := RX11) (k := 354) (tx := "version") (List.mem_of_getElem? (i := 1101) (by decide +kernel))
  have hstr354 : jStr base str354 7 s s.heap := hstr3540
  obtain ⟨str355, rstr355, hstr3550⟩ := hG.str (o := RX11) (k := 355) (tx := "text") (List.mem_of_getElem? (i := 1102) (by decide +kernel))
  have hstr355 : jStr base str355 4 s s.heap := hstr3550
  have hlk_61 := (htw (.fieldLink RX11 61 "ProofServer" "open" "Ljava/util/List;") (jWr_2 _ (List.mem_of_getElem? (i := 14) rfl)))
  have hlk_348 := (htw (.fieldLink RX11 348 "ProofServer$Document" "uri" "[I") (jWr_27 _ (List.mem_of_getElem? (i := 21) rfl)))
  have hlk_162 := (htw (.fieldLink RX11 162 "ProofServer$Document" "version" "I") (jWr_35 _ (List.mem_of_getElem? (i := 15) rfl)))
  have hlk_41 := (htw (.fieldLink RX11 41 "ProofServer" "kernel" "LProofServer$Kernel;") (jWr_2 _ (List.mem_of_getElem? (i := 5) rfl)))
  have hlk_203 := (htw (.fieldLink RX11 203 "ProofServer$Kernel" "syntax" "LProofServer$Syntax;") (jWr_35 _ (List.mem_of_getElem? (i := 16) rfl)))
  have hlk_171 := (htw (.fieldLink RX11 171 "ProofServer$Document" "checked" "I") (jWr_35 _ (List.mem_of_getElem? (i := 17) rfl)))
  have hlk_168 := (htw (.fieldLink RX11 168 "ProofServer$Document" "sentences" "I") (jWr_35 _ (List.mem_of_getElem? (i := 4) rfl)))
  have hbs : base ≤ s.heap.size := Nat.le_of_lt (Nat.lt_of_le_of_lt (hh.ab hg_r0).1 (hh.ab hg_r0).2)
  have hRc : R.cells = LC - s.heap.size := by rw [← hR]; rfl
  have hRs : R.slots = LS - jTot s.heap := by rw [← hR]; rfl
  have hh_1 := hh.addI (jOl.ie (dC := dC) (dI := dI) (G0 := G0) (k := 2) (rs := [bo, ou]) (H0 := s.heap) (F := [(2, 0), (2, 1)]) (C := RX0) (T := TX0) (N := 2) rfl (by decide) hh.2.2.2.2.1 (jOl.rf))
  clear hh
  refine lv_aload_n hx hb dX11_openDocument_0 rfl (lv_at hl 0 rfl) ?_
  refine j7_read hx hb hown hK (C := RX11) (T := TX11) (N := 19) rfl hly_13_2 hlk_28 (hh_1.at 4 rfl) dX11_openDocument_1 ?_
  refine lv_aload_n hx hb dX11_openDocument_4 rfl (lv_at hl 0 rfl) ?_
  refine j7_read hx hb hown hK (C := RX11) (T := TX11) (N := 19) rfl hly_13_2 hlk_28 (hh_1.at 4 rfl) dX11_openDocument_5 ?_
  refine lv_iconst (v := 0) hx hb dX11_openDocument_8 (by decide) ?_
  refine j_ldcSw hx hb hown rstr271 dX11_openDocument_9 ?_
  have hsz_2 := hh_1.2.2.2.2.2.1
  have htt_2 := hh_1.2.2.2.2.2.2.1
  refine W.room (fun hrc_2 hrs_2 => ?_)
  refine va_calli (A0 := jA base) (H0 := s.heap) (va_runV (As := [.int 0, .ref str271]) (rest := [.ref js]) ⟨hx, hb, hml, hown, hts⟩ (uX4_memberQ l dC dI ca base B hB hAp hB6 hB140 hB141 hB142 hB143 hB144 hB145 hB146 G0 s.heap js 0 str271 6 pv wk wi wz jks fk fi fz fs) (cwV 2 hts (jgV (jWr_23 _ (List.mem_of_getElem? (i := 10) rfl)) (jWr_23 _ (List.mem_of_getElem? (i := 11) rfl)) (jWr_23 _ (List.mem_of_getElem? (i := 12) rfl)) (jWr_1 _ (List.mem_of_getElem? (i := 22) rfl)) (jWr_23 _ (List.mem_of_getElem? (i := 13) rfl))) rfl rfl rfl (by decide +kernel) ⟨by rw [← hR]; exact Nat.le_of_ble_eq_true rfl, by rw [← hR]; exact Nat.le_of_ble_eq_true rfl⟩) ⟨fun a U g mk q => by obtain ⟨q0, q1, q2, qK, q10, q11, q12, q13, q14, q15, q16, q17, q18⟩ := q; exact ⟨q0, q1, q2, jG.calling g mk a qK, (q10.moved (Vm.Alike.refl U.vm)), q11, q12, q13, q14, q15, q16, q17, q18⟩, hh_1.recv (C := RX4) (T := TX4) (N := 12) hB6 rfl (by decide) hg_js hK, fun U hU hW => ⟨rfl, hU, hh_1.2.1, hG.step hW hU hh_1.1, (hstr271.moved hW.alike).kept hh_1.1.2.1, hg_js, hg_wk, hg_wi, hg_wz, hg_jks, (hh_1.2.2.1.sub (L1 := [(js, 6, 7, .int pv), (js, 6, 0, .ref wk), (js, 6, 1, .ref wi), (js, 6, 2, .ref wz), (js, 6, 5, .ref jks)]) [5, 7, 8, 9, 11] rfl), (hh_1.2.2.2.2.2.2.2.1.sub (L1 := [(wk, 140, 1502, ca 1, fk), (wi, 141, 1502, ca 1, fi), (wz, 142, 1502, ca 1, fz), (jks, 145, 1502, ca 1, fs)]) [0, 1, 2, 4] rfl), ⟨(by first | (with_reducible assumption) | omega | rfl | fail), (by first | (with_reducible assumption) | omega | rfl | fail), (by first | (with_reducible assumption) | omega | rfl | fail)⟩⟩⟩ rfl rfl hl.1 rfl (lv_room (Nat.le_of_ble_eq_true rfl)) dX11_openDocument_12 ⟨by rw [hRc]; show _ + 0 ≤ _; omega, by rw [hRs]; show _ + 0 ≤ _; omega⟩) hh_1.1 (fun q _ h => h) (fun q h => h) (fun r_3 u_2 t_2 H_2 locs_2 ht_2 hvm_2 hr_3 hb_2 hz_2 hk_2 hS_2 => ?_)
  rw [ht_2] at hb_2
  obtain ⟨hb_2, hbF_2⟩ := hb_2
  obtain ⟨hb_21, hb_22, hb_23, hb_24, hb_25⟩ := hb_2
  have hh_2 : jSt (dC, dI) B base G0 G0 EX11_openDocument s.heap 0 0 [(r0, 13, 4, .ref bo), (bo, 2, 1, .int pc), (bo, 2, 0, .ref pa), (r0, 13, 3, .ref ou), (r0, 13, 2, .ref js), (js, 6, 7, .int pv), (js, 6, 8, .int pu), (js, 6, 0, .ref wk), (js, 6, 1, .ref wi), (js, 6, 2, .ref wz), (js, 6, 4, .ref jkf), (js, 6, 5, .ref jks), (r0, 13, 1, .ref fm), (fm, 4, 1, .int fl), (r0, 13, 7, .ref op), (op, 1, 2, .int sz)] [(wk, 140, 1502, ca 1, fk), (wi, 141, 1502, ca 1, fi), (wz, 142, 1502, ca 1, fz), (jkf, 144, 1502, ca 1, fa), (jks, 145, 1502, ca 1, fs)] [([(2, 0), (2, 1)], jOl (dC, dI) G0 2 [bo, ou] s.heap), (jFy, jYb dC dI G0), (jFl, jLs dC dI ca G0 3 none), (jFdo, jDcc dC dI ca G0 none ph)] H_2 locs_2 := ((hh_1.call hb_21 hb_22 hb_23 hb_24 hS_2 rfl (L1 := [(r0, 13, 4, .ref bo), (bo, 2, 1, .int pc), (bo, 2, 0, .ref pa), (r0, 13, 3, .ref ou), (r0, 13, 2, .ref js), (js, 6, 7, .int pv), (js, 6, 8, .int pu), (js, 6, 0, .ref wk), (js, 6, 1, .ref wi), (js, 6, 2, .ref wz), (js, 6, 4, .ref jkf), (js, 6, 5, .ref jks), (r0, 13, 1, .ref fm), (fm, 4, 1, .int fl), (r0, 13, 7, .ref op), (op, 1, 2, .int sz)]) [0, 1, 2, 3, 4, 5, 6, 7, 8, 9, 10, 11, 12, 13, 14, 15] rfl rfl (M1 := [(wk, 140, 1502, ca 1, fk), (wi, 141, 1502, ca 1, fi), (wz, 142, 1502, ca 1, fz), (jkf, 144, 1502, ca 1, fa), (jks, 145, 1502, ca 1, fs)]) [0, 1, 2, 3, 4] rfl rfl (I1 := [([(2, 0), (2, 1)], jOl (dC, dI) G0 2 [bo, ou] s.heap), (jFy, jYb dC dI G0), (jFl, jLs dC dI ca G0 3 none), (jFdo, jDcc dC dI ca G0 none ph)]) [0, 1, 2, 3] rfl rfl).more hb_25)
  clear hh_1 ht_2 hvm_2 hz_2 hk_2 hS_2 hb_21 hb_22 hb_23 hb_24 hb_25
  obtain ⟨hr_3_0, hr_3_1, hr_3_2⟩ := hr_3
  have hr_3_2o := jOr.of hr_3_2
  clear hr_3_2
  have hr_3_2 := hr_3_2o
  clear hr_3_2o
  refine j_ldcSw hx hb hown rstr344 dX11_openDocument_15 ?_
  try clear hsz_2 htt_2 hrc_2 hrs_2
  have hsz_4 := hh_2.2.2.2.2.2.1
  have htt_4 := hh_2.2.2.2.2.2.2.1
  refine W.room (fun hrc_4 hrs_4 => ?_)
  refine va_calli (A0 := jA base) (H0 := s.heap) (va_runV (As := [.int r_3, .ref str344]) (rest := []) ⟨hx, hb, hml, hown, hts⟩ (uX4_memberQ l dC dI ca base B hB hAp hB6 hB140 hB141 hB142 hB143 hB144 hB145 hB146 G0 H_2 js r_3 str344 12 pv wk wi wz jks fk fi fz fs) (cwV 2 hts (jgV (jWr_23 _ (List.mem_of_getElem? (i := 10) rfl)) (jWr_23 _ (List.mem_of_getElem? (i := 11) rfl)) (jWr_23 _ (List.mem_of_getElem? (i := 12) rfl)) (jWr_1 _ (List.mem_of_getElem? (i := 22) rfl)) (jWr_23 _ (List.mem_of_getElem? (i := 13) rfl))) rfl rfl rfl (by decide +kernel) ⟨by rw [← hR]; exact Nat.le_of_ble_eq_true rfl, by rw [← hR]; exact Nat.le_of_ble_eq_true rfl⟩) ⟨fun a U g mk q => by obtain ⟨q0, q1, q2, qK, q10, q11, q12, q13, q14, q15, q16, q17, q18⟩ := q; exact ⟨q0, q1, q2, jG.calling g mk a qK, (q10.moved (Vm.Alike.refl U.vm)), q11, q12, q13, q14, q15, q16, q17, q18⟩, hh_2.recv (C := RX4) (T := TX4) (N := 12) hB6 rfl (by decide) hg_js hK, fun U hU hW => ⟨rfl, hU, hh_2.2.1, hG.step hW hU hh_2.1, (hstr344.moved hW.alike).kept hh_2.1.2.1, hg_js, hg_wk, hg_wi, hg_wz, hg_jks, (hh_2.2.2.1.sub (L1 := [(js, 6, 7, .int pv), (js, 6, 0, .ref wk), (js, 6, 1, .ref wi), (js, 6, 2, .ref wz), (js, 6, 5, .ref jks)]) [5, 7, 8, 9, 11] rfl), (hh_2.2.2.2.2.2.2.2.1.sub (L1 := [(wk, 140, 1502, ca 1, fk), (wi, 141, 1502, ca 1, fi), (wz, 142, 1502, ca 1, fz), (jks, 145, 1502, ca 1, fs)]) [0, 1, 2, 4] rfl), ⟨(by first | (with_reducible assumption) | omega | rfl | fail), (by first | (with_reducible assumption) | omega | rfl | fail), (by first | (with_reducible assumption) | omega | rfl | fail)⟩⟩⟩ rfl rfl hl.1 rfl (lv_room (Nat.le_of_ble_eq_true rfl)) dX11_openDocument_18 ⟨by rw [hRc]; show _ + 0 ≤ _; omega, by rw [hRs]; show _ + 0 ≤ _; omega⟩) hh_2.1 (fun q _ h => h) (fun q h => h) (fun r_5 u_4 t_4 H_4 locs_4 ht_4 hvm_4 hr_5 hb_4 hz_4 hk_4 hS_4 => ?_)
  rw [ht_4] at hb_4
  obtain ⟨hb_4, hbF_4⟩ := hb_4
  obtain ⟨hb_41, hb_42, hb_43, hb_44, hb_45⟩ := hb_4
  have hh_4 : jSt (dC, dI) B base G0 G0 EX11_openDocument s.heap 0 0 [(r0, 13, 4, .ref bo), (bo, 2, 1, .int pc), (bo, 2, 0, .ref pa), (r0, 13, 3, .ref ou), (r0, 13, 2, .ref js), (js, 6, 7, .int pv), (js, 6, 8, .int pu), (js, 6, 0, .ref wk), (js, 6, 1, .ref wi), (js, 6, 2, .ref wz), (js, 6, 4, .ref jkf), (js, 6, 5, .ref jks), (r0, 13, 1, .ref fm), (fm, 4, 1, .int fl), (r0, 13, 7, .ref op), (op, 1, 2, .int sz)] [(wk, 140, 1502, ca 1, fk), (wi, 141, 1502, ca 1, fi), (wz, 142, 1502, ca 1, fz), (jkf, 144, 1502, ca 1, fa), (jks, 145, 1502, ca 1, fs)] [([(2, 0), (2, 1)], jOl (dC, dI) G0 2 [bo, ou] s.heap), (jFy, jYb dC dI G0), (jFl, jLs dC dI ca G0 3 none), (jFdo, jDcc dC dI ca G0 none ph)] H_4 locs_4 := ((hh_2.call hb_41 hb_42 hb_43 hb_44 hS_4 rfl (L1 := [(r0, 13, 4, .ref bo), (bo, 2, 1, .int pc), (bo, 2, 0, .ref pa), (r0, 13, 3, .ref ou), (r0, 13, 2, .ref js), (js, 6, 7, .int pv), (js, 6, 8, .int pu), (js, 6, 0, .ref wk), (js, 6, 1, .ref wi), (js, 6, 2, .ref wz), (js, 6, 4, .ref jkf), (js, 6, 5, .ref jks), (r0, 13, 1, .ref fm), (fm, 4, 1, .int fl), (r0, 13, 7, .ref op), (op, 1, 2, .int sz)]) [0, 1, 2, 3, 4, 5, 6, 7, 8, 9, 10, 11, 12, 13, 14, 15] rfl rfl (M1 := [(wk, 140, 1502, ca 1, fk), (wi, 141, 1502, ca 1, fi), (wz, 142, 1502, ca 1, fz), (jkf, 144, 1502, ca 1, fa), (jks, 145, 1502, ca 1, fs)]) [0, 1, 2, 3, 4] rfl rfl (I1 := [([(2, 0), (2, 1)], jOl (dC, dI) G0 2 [bo, ou] s.heap), (jFy, jYb dC dI G0), (jFl, jLs dC dI ca G0 3 none), (jFdo, jDcc dC dI ca G0 none ph)]) [0, 1, 2, 3] rfl rfl).more hb_45)
  clear hh_2 ht_4 hvm_4 hz_4 hk_4 hS_4 hb_41 hb_42 hb_43 hb_44 hb_45
  obtain ⟨hr_5_0, hr_5_1, hr_5_2⟩ := hr_5
  have hr_5_2o := jOr.of hr_5_2
  clear hr_5_2
  have hr_5_2 := hr_5_2o
  clear hr_5_2o
  refine lv_istore_n (lv' := [(1, .int r_5), (0, .ref r0)]) hx hb dX11_openDocument_21 rfl hl (by decide) rfl (fun ls hl => ?_)
  refine lv_aload_n hx hb dX11_openDocument_22 rfl (lv_at hl 1 rfl) ?_
  refine j7_read hx hb hown hK (C := RX11) (T := TX11) (N := 19) rfl hly_13_2 hlk_28 (hh_4.at 4 rfl) dX11_openDocument_23 ?_
  refine lv_iload_n hx hb dX11_openDocument_26 rfl (lv_at hl 0 rfl) ?_
  refine j_ldcSw hx hb hown rstr346 dX11_openDocument_27 ?_
  try clear hsz_4 htt_4 hrc_4 hrs_4
  have hsz_6 := hh_4.2.2.2.2.2.1
  have htt_6 := hh_4.2.2.2.2.2.2.1
  refine W.room (fun hrc_6 hrs_6 => ?_)
  refine va_calli (A0 := jA base) (H0 := s.heap) (va_runV (As := [.int r_5, .ref str346]) (rest := []) ⟨hx, hb, hml, hown, hts⟩ (uX4_memberQ l dC dI ca base B hB hAp hB6 hB140 hB141 hB142 hB143 hB144 hB145 hB146 G0 H_4 js r_5 str346 3 pv wk wi wz jks fk fi fz fs) (cwV 2 hts (jgV (jWr_23 _ (List.mem_of_getElem? (i := 10) rfl)) (jWr_23 _ (List.mem_of_getElem? (i := 11) rfl)) (jWr_23 _ (List.mem_of_getElem? (i := 12) rfl)) (jWr_1 _ (List.mem_of_getElem? (i := 22) rfl)) (jWr_23 _ (List.mem_of_getElem? (i := 13) rfl))) rfl rfl rfl (by decide +kernel) ⟨by rw [← hR]; exact Nat.le_of_ble_eq_true rfl, by rw [← hR]; exact Nat.le_of_ble_eq_true rfl⟩) ⟨fun a U g mk q => by obtain ⟨q0, q1, q2, qK, q10, q11, q12, q13, q14, q15, q16, q17, q18⟩ := q; exact ⟨q0, q1, q2, jG.calling g mk a qK, (q10.moved (Vm.Alike.refl U.vm)), q11, q12, q13, q14, q15, q16, q17, q18⟩, hh_4.recv (C := RX4) (T := TX4) (N := 12) hB6 rfl (by decide) hg_js hK, fun U hU hW => ⟨rfl, hU, hh_4.2.1, hG.step hW hU hh_4.1, (hstr346.moved hW.alike).kept hh_4.1.2.1, hg_js, hg_wk, hg_wi, hg_wz, hg_jks, (hh_4.2.2.1.sub (L1 := [(js, 6, 7, .int pv), (js, 6, 0, .ref wk), (js, 6, 1, .ref wi), (js, 6, 2, .ref wz), (js, 6, 5, .ref jks)]) [5, 7, 8, 9, 11] rfl), (hh_4.2.2.2.2.2.2.2.1.sub (L1 := [(wk, 140, 1502, ca 1, fk), (wi, 141, 1502, ca 1, fi), (wz, 142, 1502, ca 1, fz), (jks, 145, 1502, ca 1, fs)]) [0, 1, 2, 4] rfl), ⟨(by first | (with_reducible assumption) | omega | rfl | fail), (by first | (with_reducible assumption) | omega | rfl | fail), (by first | (with_reducible assumption) | omega | rfl | fail)⟩⟩⟩ rfl rfl hl.1 rfl (lv_room (Nat.le_of_ble_eq_true rfl)) dX11_openDocument_30 ⟨by rw [hRc]; show _ + 0 ≤ _; omega, by rw [hRs]; show _ + 0 ≤ _; omega⟩) hh_4.1 (fun q _ h => h) (fun q h => h) (fun r_7 u_6 t_6 H_6 locs_6 ht_6 hvm_6 hr_7 hb_6 hz_6 hk_6 hS_6 => ?_)
  rw [ht_6] at hb_6
  obtain ⟨hb_6, hbF_6⟩ := hb_6
  obtain ⟨hb_61, hb_62, hb_63, hb_64, hb_65⟩ := hb_6
  have hh_6 : jSt (dC, dI) B base G0 G0 EX11_openDocument s.heap 0 0 [(r0, 13, 4, .ref bo), (bo, 2, 1, .int pc), (bo, 2, 0, .ref pa), (r0, 13, 3, .ref ou), (r0, 13, 2, .ref js), (js, 6, 7, .int pv), (js, 6, 8, .int pu), (js, 6, 0, .ref wk), (js, 6, 1, .ref wi), (js, 6, 2, .ref wz), (js, 6, 4, .ref jkf), (js, 6, 5, .ref jks), (r0, 13, 1, .ref fm), (fm, 4, 1, .int fl), (r0, 13, 7, .ref op), (op, 1, 2, .int sz)] [(wk, 140, 1502, ca 1, fk), (wi, 141, 1502, ca 1, fi), (wz, 142, 1502, ca 1, fz), (jkf, 144, 1502, ca 1, fa), (jks, 145, 1502, ca 1, fs)] [([(2, 0), (2, 1)], jOl (dC, dI) G0 2 [bo, ou] s.heap), (jFy, jYb dC dI G0), (jFl, jLs dC dI ca G0 3 none), (jFdo, jDcc dC dI ca G0 none ph)] H_6 locs_6 := ((hh_4.call hb_61 hb_62 hb_63 hb_64 hS_6 rfl (L1 := [(r0, 13, 4, .ref bo), (bo, 2, 1, .int pc), (bo, 2, 0, .ref pa), (r0, 13, 3, .ref ou), (r0, 13, 2, .ref js), (js, 6, 7, .int pv), (js, 6, 8, .int pu), (js, 6, 0, .ref wk), (js, 6, 1, .ref wi), (js, 6, 2, .ref wz), (js, 6, 4, .ref jkf), (js, 6, 5, .ref jks), (r0, 13, 1, .ref fm), (fm, 4, 1, .int fl), (r0, 13, 7, .ref op), (op, 1, 2, .int sz)]) [0, 1, 2, 3, 4, 5, 6, 7, 8, 9, 10, 11, 12, 13, 14, 15] rfl rfl (M1 := [(wk, 140, 1502, ca 1, fk), (wi, 141, 1502, ca 1, fi), (wz, 142, 1502, ca 1, fz), (jkf, 144, 1502, ca 1, fa), (jks, 145, 1502, ca 1, fs)]) [0, 1, 2, 3, 4] rfl rfl (I1 := [([(2, 0), (2, 1)], jOl (dC, dI) G0 2 [bo, ou] s.heap), (jFy, jYb dC dI G0), (jFl, jLs dC dI ca G0 3 none), (jFdo, jDcc dC dI ca G0 none ph)]) [0, 1, 2, 3] rfl rfl).more hb_65)
  clear hh_4 ht_6 hvm_6 hz_6 hk_6 hS_6 hb_61 hb_62 hb_63 hb_64 hb_65
  obtain ⟨hr_7_0, hr_7_1, hr_7_2⟩ := hr_7
  have hr_7_2o := jOr.of hr_7_2
  clear hr_7_2
  have hr_7_2 := hr_7_2o
  clear hr_7_2o
  refine lv_istore_n (lv' := [(2, .int r_7), (1, .int r_5), (0, .ref r0)]) hx hb dX11_openDocument_33 rfl hl (by decide) rfl (fun ls hl => ?_)
  refine lv_aload_n hx hb dX11_openDocument_34 rfl (lv_at hl 2 rfl) ?_
  refine j7_read hx hb hown hK (C := RX11) (T := TX11) (N := 19) rfl hly_13_2 hlk_28 (hh_6.at 4 rfl) dX11_openDocument_35 ?_
  refine lv_iload_n hx hb dX11_openDocument_38 rfl (lv_at hl 1 rfl) ?_
  refine j_ldcSw hx hb hown rstr354 dX11_openDocument_39 ?_
  try clear hsz_6 htt_6 hrc_6 hrs_6
  have hsz_8 := hh_6.2.2.2.2.2.1
  have htt_8 := hh_6.2.2.2.2.2.2.1
  refine W.room (fun hrc_8 hrs_8 => ?_)
  refine va_calli (A0 := jA base) (H0 := s.heap) (va_runV (As := [.int r_5, .ref str354]) (rest := []) ⟨hx, hb, hml, hown, hts⟩ (uX4_memberQ l dC dI ca base B hB hAp hB6 hB140 hB141 hB142 hB143 hB144 hB145 hB146 G0 H_6 js r_5 str354 7 pv wk wi wz jks fk fi fz fs) (cwV 2 hts (jgV (jWr_23 _ (List.mem_of_getElem? (i := 10) rfl)) (jWr_23 _ (List.mem_of_getElem? (i := 11) rfl)) (jWr_23 _ (List.mem_of_getElem? (i := 12) rfl)) (jWr_1 _ (List.mem_of_getElem? (i := 22) rfl)) (jWr_23 _ (List.mem_of_getElem? (i := 13) rfl))) rfl rfl rfl (by decide +kernel) ⟨by rw [← hR]; exact Nat.le_of_ble_eq_true rfl, by rw [← hR]; exact Nat.le_of_ble_eq_true rfl⟩) ⟨fun a U g mk q => by obtain ⟨q0, q1, q2, qK, q10, q11, q12, q13, q14, q15, q16, q17, q18⟩ := q; exact ⟨q0, q1, q2, jG.calling g mk a qK, (q10.moved (Vm.Alike.refl U.vm)), q11, q12, q13, q14, q15, q16, q17, q18⟩, hh_6.recv (C := RX4) (T := TX4) (N := 12) hB6 rfl (by decide) hg_js hK, fun U hU hW => ⟨rfl, hU, hh_6.2.1, hG.step hW hU hh_6.1, (hstr354.moved hW.alike).kept hh_6.1.2.1, hg_js, hg_wk, hg_wi, hg_wz, hg_jks, (hh_6.2.2.1.sub (L1 := [(js, 6, 7, .int pv), (js, 6, 0, .ref wk), (js, 6, 1, .ref wi), (js, 6, 2, .ref wz), (js, 6, 5, .ref jks)]) [5, 7, 8, 9, 11] rfl), (hh_6.2.2.2.2.2.2.2.1.sub (L1 := [(wk, 140, 1502, ca 1, fk), (wi, 141, 1502, ca 1, fi), (wz, 142, 1502, ca 1, fz), (jks, 145, 1502, ca 1, fs)]) [0, 1, 2, 4] rfl), ⟨(by first | (with_reducible assumption) | omega | rfl | fail), (by first | (with_reducible assumption) | omega | rfl | fail), (by first | (with_reducible assumption) | omega | rfl | fail)⟩⟩⟩ rfl rfl hl.1 rfl (lv_room (Nat.le_of_ble_eq_true rfl)) dX11_openDocument_42 ⟨by rw [hRc]; show _ + 0 ≤ _; omega, by rw [hRs]; show _ + 0 ≤ _; omega⟩) hh_6.1 (fun q _ h => h) (fun q h => h) (fun r_9 u_8 t_8 H_8 locs_8 ht_8 hvm_8 hr_9 hb_8 hz_8 hk_8 hS_8 => ?_)
  rw [ht_8] at hb_8
  obtain ⟨hb_8, hbF_8⟩ := hb_8
  obtain ⟨hb_81, hb_82, hb_83, hb_84, hb_85⟩ := hb_8
  have hh_8 : jSt (dC, dI) B base G0 G0 EX11_openDocument s.heap 0 0 [(r0, 13, 4, .ref bo), (bo, 2, 1, .int pc), (bo, 2, 0, .ref pa), (r0, 13, 3, .ref ou), (r0, 13, 2, .ref js), (js, 6, 7, .int pv), (js, 6, 8, .int pu), (js, 6, 0, .ref wk), (js, 6, 1, .ref wi), (js, 6, 2, .ref wz), (js, 6, 4, .ref jkf), (js, 6, 5, .ref jks), (r0, 13, 1, .ref fm), (fm, 4, 1, .int fl), (r0, 13, 7, .ref op), (op, 1, 2, .int sz)] [(wk, 140, 1502, ca 1, fk), (wi, 141, 1502, ca 1, fi), (wz, 142, 1502, ca 1, fz), (jkf, 144, 1502, ca 1, fa), (jks, 145, 1502, ca 1, fs)] [([(2, 0), (2, 1)], jOl (dC, dI) G0 2 [bo, ou] s.heap), (jFy, jYb dC dI G0), (jFl, jLs dC dI ca G0 3 none), (jFdo, jDcc dC dI ca G0 none ph)] H_8 locs_8 := ((hh_6.call hb_81 hb_82 hb_83 hb_84 hS_8 rfl (L1 := [(r0, 13, 4, .ref bo), (bo, 2, 1, .int pc), (bo, 2, 0, .ref pa), (r0, 13, 3, .ref ou), (r0, 13, 2, .ref js), (js, 6, 7, .int pv), (js, 6, 8, .int pu), (js, 6, 0, .ref wk), (js, 6, 1, .ref wi), (js, 6, 2, .ref wz), (js, 6, 4, .ref jkf), (js, 6, 5, .ref jks), (r0, 13, 1, .ref fm), (fm, 4, 1, .int fl), (r0, 13, 7, .ref op), (op, 1, 2, .int sz)]) [0, 1, 2, 3, 4, 5, 6, 7, 8, 9, 10, 11, 12, 13, 14, 15] rfl rfl (M1 := [(wk, 140, 1502, ca 1, fk), (wi, 141, 1502, ca 1, fi), (wz, 142, 1502, ca 1, fz), (jkf, 144, 1502, ca 1, fa), (jks, 145, 1502, ca 1, fs)]) [0, 1, 2, 3, 4] rfl rfl (I1 := [([(2, 0), (2, 1)], jOl (dC, dI) G0 2 [bo, ou] s.heap), (jFy, jYb dC dI G0), (jFl, jLs dC dI ca G0 3 none), (jFdo, jDcc dC dI ca G0 none ph)]) [0, 1, 2, 3] rfl rfl).more hb_85)
  clear hh_6 ht_8 hvm_8 hz_8 hk_8 hS_8 hb_81 hb_82 hb_83 hb_84 hb_85
  obtain ⟨hr_9_0, hr_9_1, hr_9_2⟩ := hr_9
  have hr_9_2o := jOr.of hr_9_2
  clear hr_9_2
  have hr_9_2 := hr_9_2o
  clear hr_9_2o
  refine lv_istore_n (lv' := [(3, .int r_9), (2, .int r_7), (1, .int r_5), (0, .ref r0)]) hx hb dX11_openDocument_45 rfl hl (by decide) rfl (fun ls hl => ?_)
  refine lv_aload_n hx hb dX11_openDocument_46 rfl (lv_at hl 3 rfl) ?_
  refine j7_read hx hb hown hK (C := RX11) (T := TX11) (N := 19) rfl hly_13_2 hlk_28 (hh_8.at 4 rfl) dX11_openDocument_47 ?_
  refine lv_iload_n hx hb dX11_openDocument_50 rfl (lv_at hl 2 rfl) ?_
  refine j_ldcSw hx hb hown rstr355 dX11_openDocument_51 ?_
  try clear hsz_8 htt_8 hrc_8 hrs_8
  have hsz_10 := hh_8.2.2.2.2.2.1
  have htt_10 := hh_8.2.2.2.2.2.2.1
  refine W.room (fun hrc_10 hrs_10 => ?_)
  refine va_calli (A0 := jA base) (H0 := s.heap) (va_runV (As := [.int r_5, .ref str355]) (rest := []) ⟨hx, hb, hml, hown, hts⟩ (uX4_memberQ l dC dI ca base B hB hAp hB6 hB140 hB141 hB142 hB143 hB144 hB145 hB146 G0 H_8 js r_5 str355 4 pv wk wi wz jks fk fi fz fs) (cwV 2 hts (jgV (jWr_23 _ (List.mem_of_getElem? (i := 10) rfl)) (jWr_23 _ (List.mem_of_getElem? (i := 11) rfl)) (jWr_23 _ (List.mem_of_getElem? (i := 12) rfl)) (jWr_1 _ (List.mem_of_getElem? (i := 22) rfl)) (jWr_23 _ (List.mem_of_getElem? (i := 13) rfl))) rfl rfl rfl (by decide +kernel) ⟨by rw [← hR]; exact Nat.le_of_ble_eq_true rfl, by rw [← hR]; exact Nat.le_of_ble_eq_true rfl⟩) ⟨fun a U g mk q => by obtain ⟨q0, q1, q2, qK, q10, q11, q12, q13, q14, q15, q16, q17, q18⟩ := q; exact ⟨q0, q1, q2, jG.calling g mk a qK, (q10.moved (Vm.Alike.refl U.vm)), q11, q12, q13, q14, q15, q16, q17, q18⟩, hh_8.recv (C := RX4) (T := TX4) (N := 12) hB6 rfl (by decide) hg_js hK, fun U hU hW => ⟨rfl, hU, hh_8.2.1, hG.step hW hU hh_8.1, (hstr355.moved hW.alike).kept hh_8.1.2.1, hg_js, hg_wk, hg_wi, hg_wz, hg_jks, (hh_8.2.2.1.sub (L1 := [(js, 6, 7, .int pv), (js, 6, 0, .ref wk), (js, 6, 1, .ref wi), (js, 6, 2, .ref wz), (js, 6, 5, .ref jks)]) [5, 7, 8, 9, 11] rfl), (hh_8.2.2.2.2.2.2.2.1.sub (L1 := [(wk, 140, 1502, ca 1, fk), (wi, 141, 1502, ca 1, fi), (wz, 142, 1502, ca 1, fz), (jks, 145, 1502, ca 1, fs)]) [0, 1, 2, 4] rfl), ⟨(by first | (with_reducible assumption) | omega | rfl | fail), (by first | (with_reducible assumption) | omega | rfl | fail), (by first | (with_reducible assumption) | omega | rfl | fail)⟩⟩⟩ rfl rfl hl.1 rfl (lv_room (Nat.le_of_ble_eq_true rfl)) dX11_openDocument_54 ⟨by rw [hRc]; show _ + 0 ≤ _; omega, by rw [hRs]; show _ + 0 ≤ _; omega⟩) hh_8.1 (fun q _ h => h) (fun q h => h) (fun r_11 u_10 t_10 H_10 locs_10 ht_10 hvm_10 hr_11 hb_10 hz_10 hk_10 hS_10 => ?_)
  rw [ht_10] at hb_10
  obtain ⟨hb_10, hbF_10⟩ := hb_10
  obtain ⟨hb_101, hb_102, hb_103, hb_104, hb_105⟩ := hb_10
  have hh_10 : jSt (dC, dI) B base G0 G0 EX11_openDocument s.heap 0 0 [(r0, 13, 4, .ref bo), (bo, 2, 1, .int pc), (bo, 2, 0, .ref pa), (r0, 13, 3, .ref ou), (r0, 13, 2, .ref js), (js, 6, 7, .int pv), (js, 6, 8, .int pu), (js, 6, 0, .ref wk), (js, 6, 1, .ref wi), (js, 6, 2, .ref wz), (js, 6, 4, .ref jkf), (js, 6, 5, .ref jks), (r0, 13, 1, .ref fm), (fm, 4, 1, .int fl), (r0, 13, 7, .ref op), (op, 1, 2, .int sz)] [(wk, 140, 1502, ca 1, fk), (wi, 141, 1502, ca 1, fi), (wz, 142, 1502, ca 1, fz), (jkf, 144, 1502, ca 1, fa), (jks, 145, 1502, ca 1, fs)] [([(2, 0), (2, 1)], jOl (dC, dI) G0 2 [bo, ou] s.heap), (jFy, jYb dC dI G0), (jFl, jLs dC dI ca G0 3 none), (jFdo, jDcc dC dI ca G0 none ph)] H_10 locs_10 := ((hh_8.call hb_101 hb_102 hb_103 hb_104 hS_10 rfl (L1 := [(r0, 13, 4, .ref bo), (bo, 2, 1, .int pc), (bo, 2, 0, .ref pa), (r0, 13, 3, .ref ou), (r0, 13, 2, .ref js), (js, 6, 7, .int pv), (js, 6, 8, .int pu), (js, 6, 0, .ref wk), (js, 6, 1, .ref wi), (js, 6, 2, .ref wz), (js, 6, 4, .ref jkf), (js, 6, 5, .ref jks), (r0, 13, 1, .ref fm), (fm, 4, 1, .int fl), (r0, 13, 7, .ref op), (op, 1, 2, .int sz)]) [0, 1, 2, 3, 4, 5, 6, 7, 8, 9, 10, 11, 12, 13, 14, 15] rfl rfl (M1 := [(wk, 140, 1502, ca 1, fk), (wi, 141, 1502, ca 1, fi), (wz, 142, 1502, ca 1, fz), (jkf, 144, 1502, ca 1, fa), (jks, 145, 1502, ca 1, fs)]) [0, 1, 2, 3, 4] rfl rfl (I1 := [([(2, 0), (2, 1)], jOl (dC, dI) G0 2 [bo, ou] s.heap), (jFy, jYb dC dI G0), (jFl, jLs dC dI ca G0 3 none), (jFdo, jDcc dC dI ca G0 none ph)]) [0, 1, 2, 3] rfl rfl).more hb_105)
  clear hh_8 ht_10 hvm_10 hz_10 hk_10 hS_10 hb_101 hb_102 hb_103 hb_104 hb_105
  obtain ⟨hr_11_0, hr_11_1, hr_11_2⟩ := hr_11
  have hr_11_2o := jOr.of hr_11_2
  clear hr_11_2
  have hr_11_2 := hr_11_2o
  clear hr_11_2o
  refine lv_istore (lv' := [(4, .int r_11), (3, .int r_9), (2, .int r_7), (1, .int r_5), (0, .ref r0)]) hx hb dX11_openDocument_57 hl (by decide) rfl (fun ls hl => ?_)
  refine lv_aload_n hx hb dX11_openDocument_59 rfl (lv_at hl 4 rfl) ?_
  refine j7_read hx hb hown hK (C := RX11) (T := TX11) (N := 19) rfl hly_13_2 hlk_28 (hh_10.at 4 rfl) dX11_openDocument_60 ?_
  refine lv_iload_n hx hb dX11_openDocument_63 rfl (lv_at hl 2 rfl) ?_
  try clear hsz_10 htt_10 hrc_10 hrs_10
  have hsz_12 := hh_10.2.2.2.2.2.1
  have htt_12 := hh_10.2.2.2.2.2.2.1
  refine W.room (fun hrc_12 hrs_12 => ?_)
  refine va_calli (A0 := jA base) (H0 := s.heap) (va_runV (As := [.int r_7]) (rest := []) ⟨hx, hb, hml, hown, hts⟩ (uX4_kindOfW l dC dI ca base B hB hAp hB6 hB140 G0 H_10 js r_7 pv wk wi wz fk fi fz) (cwV 1 hts (jgV (jWr_27 _ (List.mem_of_getElem? (i := 5) rfl)) (jWr_23 _ (List.mem_of_getElem? (i := 15) rfl)) (jWr_23 _ (List.mem_of_getElem? (i := 16) rfl)) (jWr_1 _ (List.mem_of_getElem? (i := 22) rfl)) (jWr_23 _ (List.mem_of_getElem? (i := 17) rfl))) rfl rfl rfl (by decide +kernel) ⟨by rw [← hR]; exact Nat.le_of_ble_eq_true rfl, by rw [← hR]; exact Nat.le_of_ble_eq_true rfl⟩) ⟨fun a U g mk q => by obtain ⟨q0, q1, q2, qK, q10, q11, q12, q13, q14, q15, q16⟩ := q; exact ⟨q0, q1, q2, jG.calling g mk a qK, q10, q11, q12, q13, q14, q15, q16⟩, hh_10.recv (C := RX4) (T := TX4) (N := 12) hB6 rfl (by decide) hg_js hK, fun U hU hW => ⟨rfl, hU, hh_10.2.1, hG.step hW hU hh_10.1, hg_js, hg_wk, hg_wi, hg_wz, (hh_10.2.2.1.sub (L1 := [(js, 6, 7, .int pv), (js, 6, 0, .ref wk), (js, 6, 1, .ref wi), (js, 6, 2, .ref wz)]) [5, 7, 8, 9] rfl), (hh_10.2.2.2.2.2.2.2.1.sub (L1 := [(wk, 140, 1502, ca 1, fk), (wi, 141, 1502, ca 1, fi), (wz, 142, 1502, ca 1, fz)]) [0, 1, 2] rfl), ⟨(by first | (with_reducible assumption) | omega | rfl | fail), (by first | (with_reducible assumption) | omega | rfl | fail)⟩⟩⟩ rfl rfl hl.1 rfl (lv_room (Nat.le_of_ble_eq_true rfl)) dX11_openDocument_64 ⟨by rw [hRc]; show _ + 0 ≤ _; omega, by rw [hRs]; show _ + 0 ≤ _; omega⟩) hh_10.1 (fun q _ h => h) (fun q h => h) (fun r_13 u_12 t_12 H_12 locs_12 ht_12 hvm_12 hr_13 hb_12 hz_12 hk_12 hS_12 => ?_)
  rw [ht_12] at hb_12
  obtain ⟨hb_12, hbF_12⟩ := hb_12
  obtain ⟨hb_121, hb_122, hb_123, hb_124, hb_125⟩ := hb_12
  have hh_12 : jSt (dC, dI) B base G0 G0 EX11_openDocument s.heap 0 0 [(r0, 13, 4, .ref bo), (bo, 2, 1, .int pc), (bo, 2, 0, .ref pa), (r0, 13, 3, .ref ou), (r0, 13, 2, .ref js), (js, 6, 7, .int pv), (js, 6, 8, .int pu), (js, 6, 0, .ref wk), (js, 6, 1, .ref wi), (js, 6, 2, .ref wz), (js, 6, 4, .ref jkf), (js, 6, 5, .ref jks), (r0, 13, 1, .ref fm), (fm, 4, 1, .int fl), (r0, 13, 7, .ref op), (op, 1, 2, .int sz)] [(wk, 140, 1502, ca 1, fk), (wi, 141, 1502, ca 1, fi), (wz, 142, 1502, ca 1, fz), (jkf, 144, 1502, ca 1, fa), (jks, 145, 1502, ca 1, fs)] [([(2, 0), (2, 1)], jOl (dC, dI) G0 2 [bo, ou] s.heap), (jFy, jYb dC dI G0), (jFl, jLs dC dI ca G0 3 none), (jFdo, jDcc dC dI ca G0 none ph)] H_12 locs_12 := ((hh_10.call hb_121 hb_122 hb_123 hb_124 hS_12 rfl (L1 := [(r0, 13, 4, .ref bo), (bo, 2, 1, .int pc), (bo, 2, 0, .ref pa), (r0, 13, 3, .ref ou), (r0, 13, 2, .ref js), (js, 6, 7, .int pv), (js, 6, 8, .int pu), (js, 6, 0, .ref wk), (js, 6, 1, .ref wi), (js, 6, 2, .ref wz), (js, 6, 4, .ref jkf), (js, 6, 5, .ref jks), (r0, 13, 1, .ref fm), (fm, 4, 1, .int fl), (r0, 13, 7, .ref op), (op, 1, 2, .int sz)]) [0, 1, 2, 3, 4, 5, 6, 7, 8, 9, 10, 11, 12, 13, 14, 15] rfl rfl (M1 := [(wk, 140, 1502, ca 1, fk), (wi, 141, 1502, ca 1, fi), (wz, 142, 1502, ca 1, fz), (jkf, 144, 1502, ca 1, fa), (jks, 145, 1502, ca 1, fs)]) [0, 1, 2, 3, 4] rfl rfl (I1 := [([(2, 0), (2, 1)], jOl (dC, dI) G0 2 [bo, ou] s.heap), (jFy, jYb dC dI G0), (jFl, jLs dC dI ca G0 3 none), (jFdo, jDcc dC dI ca G0 none ph)]) [0, 1, 2, 3] rfl rfl).more hb_125)
  clear hh_10 ht_12 hvm_12 hz_12 hk_12 hS_12 hb_121 hb_122 hb_123 hb_124 hb_125
  have hr_13o := jOr.of hr_13
  clear hr_13
  have hr_13 := hr_13o
  clear hr_13o
  refine lv_iconst (v := 3) hx hb dX11_openDocument_67 (by decide) ?_
  refine lv_icmp_ne (tgt := 140) hx hb dX11_openDocument_68 (by decide) (fun c_14 => ?_) (fun c_14 => ?_)
  · skip
    have c_14' : r_13.toInt ≠ 3 := jb_ne (rfl) ((by decide)) c_14
    try clear hr_13
    refine lv_iconst (v := 0) hx hb dX11_openDocument_140 (by decide) ?_
    refine lv_istore (lv' := [(5, .int 0), (4, .int r_11), (3, .int r_9), (2, .int r_7), (1, .int r_5), (0, .ref r0)]) hx hb dX11_openDocument_141 hl (by decide) rfl (fun ls hl => ?_)
    refine lv_iload hx hb dX11_openDocument_143 (lv_at hl 0 rfl) ?_
    refine lv_if_eq (tgt := 168) hx hb dX11_openDocument_145 (by decide) (fun c_15 => ?_) (fun c_15 => ?_)
    · skip
      try clear hr_3_2
      try clear hsz_12 htt_12 hrc_12 hrs_12
      have hsz_16 := hh_12.2.2.2.2.2.1
      have htt_16 := hh_12.2.2.2.2.2.2.1
      refine W.room (fun hrc_16 hrs_16 => ?_)
      refine W.widen (k := LC - s.heap.size) (n := LS - jTot s.heap) (by omega) (by omega) ?_
      rw [hQ]
      exact W.vret hx hb hr (fun t ht hW => ⟨⟨(pc, pa, n_pa, ph, G0), rfl, by (try dsimp only); exact ⟨(by first | (with_reducible assumption) | omega | rfl | fail), (by first | (with_reducible assumption) | omega | rfl | fail), (by first | (with_reducible assumption) | omega | rfl | fail), (by first | (with_reducible assumption) | omega | rfl | fail), (by first | assumption | fail | omega), (by first | (with_reducible assumption) | omega | rfl | fail)⟩, ⟨hh_12.ra (by first | (simp only; omega) | omega) (by first | (simp only; omega) | omega) (M1 := [(bo, 2, 1, .int pc), (bo, 2, 0, .ref pa)]) [1, 2] rfl ht, hg_pa, jNk.rf, by rw [ht]; exact hh_12.iv 0 rfl, by rw [ht]; exact hh_12.2.2.2.2.2.2.2.2.sub (L1 := [(jFy, jYb dC dI G0), (jFl, jLs dC dI ca G0 3 none), (jFdo, jDcc dC dI ca G0 none ph)]) [1, 2, 3] rfl⟩⟩, by rw [ht]; try exact hh_12.1.1, fun q h9 hq => by rw [ht]; try exact hh_12.1.2.1 q h9 hq⟩) hh_12.1.2.2 dX11_openDocument_168
    · skip
      exact absurd c_15 (by decide)
  · skip
    have c_14' : r_13.toInt = 3 := jb_ne_n (rfl) ((by decide)) c_14
    first | (have hr_13q := hr_13.resolve_left (by omega); clear hr_13) | (have hr_13q := hr_13.resolve_right (by omega); clear hr_13) | try clear hr_13
    first | (have hr_7_2q := hr_7_2.resolve_left (by omega); clear hr_7_2) | (have hr_7_2q := hr_7_2.resolve_right (by omega); clear hr_7_2) | skip
    first | (have hr_5_2q := hr_5_2.resolve_left (by omega); clear hr_5_2) | (have hr_5_2q := hr_5_2.resolve_right (by omega); clear hr_5_2) | skip
    first | (have hr_3_2q := hr_3_2.resolve_left (by omega); clear hr_3_2) | (have hr_3_2q := hr_3_2.resolve_right (by omega); clear hr_3_2) | try clear hr_3_2
    refine lv_aload_n hx hb dX11_openDocument_71 rfl (lv_at hl 4 rfl) ?_
    refine j7_read hx hb hown hK (C := RX11) (T := TX11) (N := 19) rfl hly_13_2 hlk_28 (hh_12.at 4 rfl) dX11_openDocument_72 ?_
    refine lv_iload_n hx hb dX11_openDocument_75 rfl (lv_at hl 2 rfl) ?_
    try clear hsz_12 htt_12 hrc_12 hrs_12
    have hsz_17 := hh_12.2.2.2.2.2.1
    have htt_17 := hh_12.2.2.2.2.2.2.1
    refine W.room (fun hrc_17 hrs_17 => ?_)
    refine va_calli (A0 := jA base) (H0 := s.heap) (va_runV (As := [.int r_7]) (rest := []) ⟨hx, hb, hml, hown, hts⟩ (uX4_sizeOfW l dC dI ca base B hB hAp hB6 hB142 G0 H_12 js r_7 pv wk wi wz fk fi fz) (cwV 1 hts (jgV (jWr_35 _ (List.mem_of_getElem? (i := 18) rfl)) (jWr_24 _ (List.mem_of_getElem? (i := 7) rfl)) (jWr_24 _ (List.mem_of_getElem? (i := 8) rfl)) (jWr_1 _ (List.mem_of_getElem? (i := 22) rfl)) (jWr_24 _ (List.mem_of_getElem? (i := 9) rfl))) rfl rfl rfl (by decide +kernel) ⟨by rw [← hR]; exact Nat.le_of_ble_eq_true rfl, by rw [← hR]; exact Nat.le_of_ble_eq_true rfl⟩) ⟨fun a U g mk q => by obtain ⟨q0, q1, q2, qK, q10, q11, q12, q13, q14, q15, q16⟩ := q; exact ⟨q0, q1, q2, jG.calling g mk a qK, q10, q11, q12, q13, q14, q15, q16⟩, hh_12.recv (C := RX4) (T := TX4) (N := 12) hB6 rfl (by decide) hg_js hK, fun U hU hW => ⟨rfl, hU, hh_12.2.1, hG.step hW hU hh_12.1, hg_js, hg_wk, hg_wi, hg_wz, (hh_12.2.2.1.sub (L1 := [(js, 6, 7, .int pv), (js, 6, 0, .ref wk), (js, 6, 1, .ref wi), (js, 6, 2, .ref wz)]) [5, 7, 8, 9] rfl), (hh_12.2.2.2.2.2.2.2.1.sub (L1 := [(wk, 140, 1502, ca 1, fk), (wi, 141, 1502, ca 1, fi), (wz, 142, 1502, ca 1, fz)]) [0, 1, 2] rfl), ⟨(by first | (with_reducible assumption) | omega | rfl | fail), (by first | (with_reducible assumption) | omega | rfl | fail)⟩⟩⟩ rfl rfl hl.1 rfl (lv_room (Nat.le_of_ble_eq_true rfl)) dX11_openDocument_76 ⟨by rw [hRc]; show _ + 0 ≤ _; omega, by rw [hRs]; show _ + 0 ≤ _; omega⟩) hh_12.1 (fun q _ h => h) (fun q h => h) (fun r_18 u_17 t_17 H_17 locs_17 ht_17 hvm_17 hr_18 hb_17 hz_17 hk_17 hS_17 => ?_)
    rw [ht_17] at hb_17
    obtain ⟨hb_17, hbF_17⟩ := hb_17
    obtain ⟨hb_171, hb_172, hb_173, hb_174, hb_175⟩ := hb_17
    have hh_17 : jSt (dC, dI) B base G0 G0 EX11_openDocument s.heap 0 0 [(r0, 13, 4, .ref bo), (bo, 2, 1, .int pc), (bo, 2, 0, .ref pa), (r0, 13, 3, .ref ou), (r0, 13, 2, .ref js), (js, 6, 7, .int pv), (js, 6, 8, .int pu), (js, 6, 0, .ref wk), (js, 6, 1, .ref wi), (js, 6, 2, .ref wz), (js, 6, 4, .ref jkf), (js, 6, 5, .ref jks), (r0, 13, 1, .ref fm), (fm, 4, 1, .int fl), (r0, 13, 7, .ref op), (op, 1, 2, .int sz)] [(wk, 140, 1502, ca 1, fk), (wi, 141, 1502, ca 1, fi), (wz, 142, 1502, ca 1, fz), (jkf, 144, 1502, ca 1, fa), (jks, 145, 1502, ca 1, fs)] [([(2, 0), (2, 1)], jOl (dC, dI) G0 2 [bo, ou] s.heap), (jFy, jYb dC dI G0), (jFl, jLs dC dI ca G0 3 none), (jFdo, jDcc dC dI ca G0 none ph)] H_17 locs_17 := ((hh_12.call hb_171 hb_172 hb_173 hb_174 hS_17 rfl (L1 := [(r0, 13, 4, .ref bo), (bo, 2, 1, .int pc), (bo, 2, 0, .ref pa), (r0, 13, 3, .ref ou), (r0, 13, 2, .ref js), (js, 6, 7, .int pv), (js, 6, 8, .int pu), (js, 6, 0, .ref wk), (js, 6, 1, .ref wi), (js, 6, 2, .ref wz), (js, 6, 4, .ref jkf), (js, 6, 5, .ref jks), (r0, 13, 1, .ref fm), (fm, 4, 1, .int fl), (r0, 13, 7, .ref op), (op, 1, 2, .int sz)]) [0, 1, 2, 3, 4, 5, 6, 7, 8, 9, 10, 11, 12, 13, 14, 15] rfl rfl (M1 := [(wk, 140, 1502, ca 1, fk), (wi, 141, 1502, ca 1, fi), (wz, 142, 1502, ca 1, fz), (jkf, 144, 1502, ca 1, fa), (jks, 145, 1502, ca 1, fs)]) [0, 1, 2, 3, 4] rfl rfl (I1 := [([(2, 0), (2, 1)], jOl (dC, dI) G0 2 [bo, ou] s.heap), (jFy, jYb dC dI G0), (jFl, jLs dC dI ca G0 3 none), (jFdo, jDcc dC dI ca G0 none ph)]) [0, 1, 2, 3] rfl rfl).more hb_175)
    clear hh_12 ht_17 hvm_17 hz_17 hk_17 hS_17 hb_171 hb_172 hb_173 hb_174 hb_175
    have hr_18o := jOr.of hr_18
    clear hr_18
    have hr_18 := hr_18o
    clear hr_18o
    refine lv_iconst (v := 1) hx hb dX11_openDocument_79 (by decide) ?_
    refine lv_icmp_lt (tgt := 140) hx hb dX11_openDocument_80 (by decide) (fun c_19 => ?_) (fun c_19 => ?_)
    · skip
      have c_19' : r_18.toInt < 1 := jb_lt (rfl) ((by decide)) c_19
      first | (have hr_18q := hr_18.resolve_left (by omega); clear hr_18) | (have hr_18q := hr_18.resolve_right (by omega); clear hr_18) | try clear hr_18
      first | (have hr_7_2q := hr_7_2.resolve_left (by omega); clear hr_7_2) | (have hr_7_2q := hr_7_2.resolve_right (by omega); clear hr_7_2) | skip
      first | (have hr_9_2q := hr_9_2.resolve_left (by omega); clear hr_9_2) | (have hr_9_2q := hr_9_2.resolve_right (by omega); clear hr_9_2) | skip
      first | (have hr_11_2q := hr_11_2.resolve_left (by omega); clear hr_11_2) | (have hr_11_2q := hr_11_2.resolve_right (by omega); clear hr_11_2) | skip
      refine lv_iconst (v := 0) hx hb dX11_openDocument_140 (by decide) ?_
      refine lv_istore (lv' := [(5, .int 0), (4, .int r_11), (3, .int r_9), (2, .int r_7), (1, .int r_5), (0, .ref r0)]) hx hb dX11_openDocument_141 hl (by decide) rfl (fun ls hl => ?_)
      refine lv_iload hx hb dX11_openDocument_143 (lv_at hl 0 rfl) ?_
      refine lv_if_eq (tgt := 168) hx hb dX11_openDocument_145 (by decide) (fun c_20 => ?_) (fun c_20 => ?_)
      · skip
        try clear hr_3_2
        try clear hsz_17 htt_17 hrc_17 hrs_17
        have hsz_21 := hh_17.2.2.2.2.2.1
        have htt_21 := hh_17.2.2.2.2.2.2.1
        refine W.room (fun hrc_21 hrs_21 => ?_)
        refine W.widen (k := LC - s.heap.size) (n := LS - jTot s.heap) (by omega) (by omega) ?_
        rw [hQ]
        exact W.vret hx hb hr (fun t ht hW => ⟨⟨(pc, pa, n_pa, ph, G0), rfl, by (try dsimp only); exact ⟨(by first | (with_reducible assumption) | omega | rfl | fail), (by first | (with_reducible assumption) | omega | rfl | fail), (by first | (with_reducible assumption) | omega | rfl | fail), (by first | (with_reducible assumption) | omega | rfl | fail), (by first | assumption | fail | omega), (by first | (with_reducible assumption) | omega | rfl | fail)⟩, ⟨hh_17.ra (by first | (simp only; omega) | omega) (by first | (simp only; omega) | omega) (M1 := [(bo, 2, 1, .int pc), (bo, 2, 0, .ref pa)]) [1, 2] rfl ht, hg_pa, jNk.rf, by rw [ht]; exact hh_17.iv 0 rfl, by rw [ht]; exact hh_17.2.2.2.2.2.2.2.2.sub (L1 := [(jFy, jYb dC dI G0), (jFl, jLs dC dI ca G0 3 none), (jFdo, jDcc dC dI ca G0 none ph)]) [1, 2, 3] rfl⟩⟩, by rw [ht]; try exact hh_17.1.1, fun q h9 hq => by rw [ht]; try exact hh_17.1.2.1 q h9 hq⟩) hh_17.1.2.2 dX11_openDocument_168
      · skip
        exact absurd c_20 (by decide)
    · skip
      have c_19' : r_18.toInt ≥ 1 := jb_lt_n (rfl) ((by decide)) c_19
      first | (have hr_18q := hr_18.resolve_left (by omega); clear hr_18) | (have hr_18q := hr_18.resolve_right (by omega); clear hr_18) | try clear hr_18
      first | (have hr_7_2q := hr_7_2.resolve_left (by omega); clear hr_7_2) | (have hr_7_2q := hr_7_2.resolve_right (by omega); clear hr_7_2) | skip
      first | (have hr_9_2q := hr_9_2.resolve_left (by omega); clear hr_9_2) | (have hr_9_2q := hr_9_2.resolve_right (by omega); clear hr_9_2) | skip
      first | (have hr_11_2q := hr_11_2.resolve_left (by omega); clear hr_11_2) | (have hr_11_2q := hr_11_2.resolve_right (by omega); clear hr_11_2) | skip
      refine lv_aload_n hx hb dX11_openDocument_83 rfl (lv_at hl 4 rfl) ?_
      refine j7_read hx hb hown hK (C := RX11) (T := TX11) (N := 19) rfl hly_13_2 hlk_28 (hh_17.at 4 rfl) dX11_openDocument_84 ?_
      refine lv_iload_n hx hb dX11_openDocument_87 rfl (lv_at hl 2 rfl) ?_
      try clear hsz_17 htt_17 hrc_17 hrs_17
      have hsz_22 := hh_17.2.2.2.2.2.1
      have htt_22 := hh_17.2.2.2.2.2.2.1
      refine W.room (fun hrc_22 hrs_22 => ?_)
      refine va_calli (A0 := jA base) (H0 := s.heap) (va_runV (As := [.int r_7]) (rest := []) ⟨hx, hb, hml, hown, hts⟩ (uX4_sizeOfW l dC dI ca base B hB hAp hB6 hB142 G0 H_17 js r_7 pv wk wi wz fk fi fz) (cwV 1 hts (jgV (jWr_35 _ (List.mem_of_getElem? (i := 18) rfl)) (jWr_24 _ (List.mem_of_getElem? (i := 7) rfl)) (jWr_24 _ (List.mem_of_getElem? (i := 8) rfl)) (jWr_1 _ (List.mem_of_getElem? (i := 22) rfl)) (jWr_24 _ (List.mem_of_getElem? (i := 9) rfl))) rfl rfl rfl (by decide +kernel) ⟨by rw [← hR]; exact Nat.le_of_ble_eq_true rfl, by rw [← hR]; exact Nat.le_of_ble_eq_true rfl⟩) ⟨fun a U g mk q => by obtain ⟨q0, q1, q2, qK, q10, q11, q12, q13, q14, q15, q16⟩ := q; exact ⟨q0, q1, q2, jG.calling g mk a qK, q10, q11, q12, q13, q14, q15, q16⟩, hh_17.recv (C := RX4) (T := TX4) (N := 12) hB6 rfl (by decide) hg_js hK, fun U hU hW => ⟨rfl, hU, hh_17.2.1, hG.step hW hU hh_17.1, hg_js, hg_wk, hg_wi, hg_wz, (hh_17.2.2.1.sub (L1 := [(js, 6, 7, .int pv), (js, 6, 0, .ref wk), (js, 6, 1, .ref wi), (js, 6, 2, .ref wz)]) [5, 7, 8, 9] rfl), (hh_17.2.2.2.2.2.2.2.1.sub (L1 := [(wk, 140, 1502, ca 1, fk), (wi, 141, 1502, ca 1, fi), (wz, 142, 1502, ca 1, fz)]) [0, 1, 2] rfl), ⟨(by first | (with_reducible assumption) | omega | rfl | fail), (by first | (with_reducible assumption) | omega | rfl | fail)⟩⟩⟩ rfl rfl hl.1 rfl (lv_room (Nat.le_of_ble_eq_true rfl)) dX11_openDocument_88 ⟨by rw [hRc]; show _ + 0 ≤ _; omega, by rw [hRs]; show _ + 0 ≤ _; omega⟩) hh_17.1 (fun q _ h => h) (fun q h => h) (fun r_23 u_22 t_22 H_22 locs_22 ht_22 hvm_22 hr_23 hb_22 hz_22 hk_22 hS_22 => ?_)
      rw [ht_22] at hb_22
      obtain ⟨hb_22, hbF_22⟩ := hb_22
      obtain ⟨hb_221, hb_222, hb_223, hb_224, hb_225⟩ := hb_22
      have hh_22 : jSt (dC, dI) B base G0 G0 EX11_openDocument s.heap 0 0 [(r0, 13, 4, .ref bo), (bo, 2, 1, .int pc), (bo, 2, 0, .ref pa), (r0, 13, 3, .ref ou), (r0, 13, 2, .ref js), (js, 6, 7, .int pv), (js, 6, 8, .int pu), (js, 6, 0, .ref wk), (js, 6, 1, .ref wi), (js, 6, 2, .ref wz), (js, 6, 4, .ref jkf), (js, 6, 5, .ref jks), (r0, 13, 1, .ref fm), (fm, 4, 1, .int fl), (r0, 13, 7, .ref op), (op, 1, 2, .int sz)] [(wk, 140, 1502, ca 1, fk), (wi, 141, 1502, ca 1, fi), (wz, 142, 1502, ca 1, fz), (jkf, 144, 1502, ca 1, fa), (jks, 145, 1502, ca 1, fs)] [([(2, 0), (2, 1)], jOl (dC, dI) G0 2 [bo, ou] s.heap), (jFy, jYb dC dI G0), (jFl, jLs dC dI ca G0 3 none), (jFdo, jDcc dC dI ca G0 none ph)] H_22 locs_22 := ((hh_17.call hb_221 hb_222 hb_223 hb_224 hS_22 rfl (L1 := [(r0, 13, 4, .ref bo), (bo, 2, 1, .int pc), (bo, 2, 0, .ref pa), (r0, 13, 3, .ref ou), (r0, 13, 2, .ref js), (js, 6, 7, .int pv), (js, 6, 8, .int pu), (js, 6, 0, .ref wk), (js, 6, 1, .ref wi), (js, 6, 2, .ref wz), (js, 6, 4, .ref jkf), (js, 6, 5, .ref jks), (r0, 13, 1, .ref fm), (fm, 4, 1, .int fl), (r0, 13, 7, .ref op), (op, 1, 2, .int sz)]) [0, 1, 2, 3, 4, 5, 6, 7, 8, 9, 10, 11, 12, 13, 14, 15] rfl rfl (M1 := [(wk, 140, 1502, ca 1, fk), (wi, 141, 1502, ca 1, fi), (wz, 142, 1502, ca 1, fz), (jkf, 144, 1502, ca 1, fa), (jks, 145, 1502, ca 1, fs)]) [0, 1, 2, 3, 4] rfl rfl (I1 := [([(2, 0), (2, 1)], jOl (dC, dI) G0 2 [bo, ou] s.heap), (jFy, jYb dC dI G0), (jFl, jLs dC dI ca G0 3 none), (jFdo, jDcc dC dI ca G0 none ph)]) [0, 1, 2, 3] rfl rfl).more hb_225)
      clear hh_17 ht_22 hvm_22 hz_22 hk_22 hS_22 hb_221 hb_222 hb_223 hb_224 hb_225
      have hr_23o := jOr.of hr_23
      clear hr_23
      have hr_23 := hr_23o
      clear hr_23o
      refine lv_bipush (v := 40) hx hb dX11_openDocument_91 (by decide) ?_
      refine lv_icmp_gt (tgt := 140) hx hb dX11_openDocument_93 (by decide) (fun c_24 => ?_) (fun c_24 => ?_)
      · skip
        have c_24' : r_23.toInt > 40 := jb_gt (rfl) ((by decide)) c_24
        first | (have hr_23q := hr_23.resolve_left (by omega); clear hr_23) | (have hr_23q := hr_23.resolve_right (by omega); clear hr_23) | try clear hr_23
        first | (have hr_7_2q := hr_7_2.resolve_left (by omega); clear hr_7_2) | (have hr_7_2q := hr_7_2.resolve_right (by omega); clear hr_7_2) | skip
        first | (have hr_5_2q := hr_5_2.resolve_left (by omega); clear hr_5_2) | (have hr_5_2q := hr_5_2.resolve_right (by omega); clear hr_5_2) | skip
        first | (have hr_3_2q := hr_3_2.resolve_left (by omega); clear hr_3_2) | (have hr_3_2q := hr_3_2.resolve_right (by omega); clear hr_3_2) | try clear hr_3_2
        refine lv_iconst (v := 0) hx hb dX11_openDocument_140 (by decide) ?_
        refine lv_istore (lv' := [(5, .int 0), (4, .int r_11), (3, .int r_9), (2, .int r_7), (1, .int r_5), (0, .ref r0)]) hx hb dX11_openDocument_141 hl (by decide) rfl (fun ls hl => ?_)
        refine lv_iload hx hb dX11_openDocument_143 (lv_at hl 0 rfl) ?_
        refine lv_if_eq (tgt := 168) hx hb dX11_openDocument_145 (by decide) (fun c_25 => ?_) (fun c_25 => ?_)
        · skip
          try clear hr_3_2
          try clear hsz_22 htt_22 hrc_22 hrs_22
          have hsz_26 := hh_22.2.2.2.2.2.1
          have htt_26 := hh_22.2.2.2.2.2.2.1
          refine W.room (fun hrc_26 hrs_26 => ?_)
          refine W.widen (k := LC - s.heap.size) (n := LS - jTot s.heap) (by omega) (by omega) ?_
          rw [hQ]
          exact W.vret hx hb hr (fun t ht hW => ⟨⟨(pc, pa, n_pa, ph, G0), rfl, by (try dsimp only); exact ⟨(by first | (with_reducible assumption) | omega | rfl | fail), (by first | (with_reducible assumption) | omega | rfl | fail), (by first | (with_reducible assumption) | omega | rfl | fail), (by first | (with_reducible assumption) | omega | rfl | fail), (by first | assumption | fail | omega), (by first | (with_reducible assumption) | omega | rfl | fail)⟩, ⟨hh_22.ra (by first | (simp only; omega) | omega) (by first | (simp only; omega) | omega) (M1 := [(bo, 2, 1, .int pc), (bo, 2, 0, .ref pa)]) [1, 2] rfl ht, hg_pa, jNk.rf, by rw [ht]; exact hh_22.iv 0 rfl, by rw [ht]; exact hh_22.2.2.2.2.2.2.2.2.sub (L1 := [(jFy, jYb dC dI G0), (jFl, jLs dC dI ca G0 3 none), (jFdo, jDcc dC dI ca G0 none ph)]) [1, 2, 3] rfl⟩⟩, by rw [ht]; try exact hh_22.1.1, fun q h9 hq => by rw [ht]; try exact hh_22.1.2.1 q h9 hq⟩) hh_22.1.2.2 dX11_openDocument_168
        · skip
          exact absurd c_25 (by decide)
      · skip
        have c_24' : r_23.toInt ≤ 40 := jb_gt_n (rfl) ((by decide)) c_24
        first | (have hr_23q := hr_23.resolve_left (by omega); clear hr_23) | (have hr_23q := hr_23.resolve_right (by omega); clear hr_23) | try clear hr_23
        first | (have hr_7_2q := hr_7_2.resolve_left (by omega); clear hr_7_2) | (have hr_7_2q := hr_7_2.resolve_right (by omega); clear hr_7_2) | skip
        first | (have hr_5_2q := hr_5_2.resolve_left (by omega); clear hr_5_2) | (have hr_5_2q := hr_5_2.resolve_right (by omega); clear hr_5_2) | skip
        first | (have hr_3_2q := hr_3_2.resolve_left (by omega); clear hr_3_2) | (have hr_3_2q := hr_3_2.resolve_right (by omega); clear hr_3_2) | try clear hr_3_2
        refine lv_aload_n hx hb dX11_openDocument_96 rfl (lv_at hl 4 rfl) ?_
        refine j7_read hx hb hown hK (C := RX11) (T := TX11) (N := 19) rfl hly_13_2 hlk_28 (hh_22.at 4 rfl) dX11_openDocument_97 ?_
        refine lv_iload_n hx hb dX11_openDocument_100 rfl (lv_at hl 1 rfl) ?_
        try clear hsz_22 htt_22 hrc_22 hrs_22
        have hsz_27 := hh_22.2.2.2.2.2.1
        have htt_27 := hh_22.2.2.2.2.2.2.1
        refine W.room (fun hrc_27 hrs_27 => ?_)
        refine va_calli (A0 := jA base) (H0 := s.heap) (va_runV (As := [.int r_9]) (rest := []) ⟨hx, hb, hml, hown, hts⟩ (uX4_kindOfW l dC dI ca base B hB hAp hB6 hB140 G0 H_22 js r_9 pv wk wi wz fk fi fz) (cwV 1 hts (jgV (jWr_27 _ (List.mem_of_getElem? (i := 5) rfl)) (jWr_23 _ (List.mem_of_getElem? (i := 15) rfl)) (jWr_23 _ (List.mem_of_getElem? (i := 16) rfl)) (jWr_1 _ (List.mem_of_getElem? (i := 22) rfl)) (jWr_23 _ (List.mem_of_getElem? (i := 17) rfl))) rfl rfl rfl (by decide +kernel) ⟨by rw [← hR]; exact Nat.le_of_ble_eq_true rfl, by rw [← hR]; exact Nat.le_of_ble_eq_true rfl⟩) ⟨fun a U g mk q => by obtain ⟨q0, q1, q2, qK, q10, q11, q12, q13, q14, q15, q16⟩ := q; exact ⟨q0, q1, q2, jG.calling g mk a qK, q10, q11, q12, q13, q14, q15, q16⟩, hh_22.recv (C := RX4) (T := TX4) (N := 12) hB6 rfl (by decide) hg_js hK, fun U hU hW => ⟨rfl, hU, hh_22.2.1, hG.step hW hU hh_22.1, hg_js, hg_wk, hg_wi, hg_wz, (hh_22.2.2.1.sub (L1 := [(js, 6, 7, .int pv), (js, 6, 0, .ref wk), (js, 6, 1, .ref wi), (js, 6, 2, .ref wz)]) [5, 7, 8, 9] rfl), (hh_22.2.2.2.2.2.2.2.1.sub (L1 := [(wk, 140, 1502, ca 1, fk), (wi, 141, 1502, ca 1, fi), (wz, 142, 1502, ca 1, fz)]) [0, 1, 2] rfl), ⟨(by first | (with_reducible assumption) | omega | rfl | fail), (by first | (with_reducible assumption) | omega | rfl | fail)⟩⟩⟩ rfl rfl hl.1 rfl (lv_room (Nat.le_of_ble_eq_true rfl)) dX11_openDocument_101 ⟨by rw [hRc]; show _ + 0 ≤ _; omega, by rw [hRs]; show _ + 0 ≤ _; omega⟩) hh_22.1 (fun q _ h => h) (fun q h => h) (fun r_28 u_27 t_27 H_27 locs_27 ht_27 hvm_27 hr_28 hb_27 hz_27 hk_27 hS_27 => ?_)
        rw [ht_27] at hb_27
        obtain ⟨hb_27, hbF_27⟩ := hb_27
        obtain ⟨hb_271, hb_272, hb_273, hb_274, hb_275⟩ := hb_27
        have hh_27 : jSt (dC, dI) B base G0 G0 EX11_openDocument s.heap 0 0 [(r0, 13, 4, .ref bo), (bo, 2, 1, .int pc), (bo, 2, 0, .ref pa), (r0, 13, 3, .ref ou), (r0, 13, 2, .ref js), (js, 6, 7, .int pv), (js, 6, 8, .int pu), (js, 6, 0, .ref wk), (js, 6, 1, .ref wi), (js, 6, 2, .ref wz), (js, 6, 4, .ref jkf), (js, 6, 5, .ref jks), (r0, 13, 1, .ref fm), (fm, 4, 1, .int fl), (r0, 13, 7, .ref op), (op, 1, 2, .int sz)] [(wk, 140, 1502, ca 1, fk), (wi, 141, 1502, ca 1, fi), (wz, 142, 1502, ca 1, fz), (jkf, 144, 1502, ca 1, fa), (jks, 145, 1502, ca 1, fs)] [([(2, 0), (2, 1)], jOl (dC, dI) G0 2 [bo, ou] s.heap), (jFy, jYb dC dI G0), (jFl, jLs dC dI ca G0 3 none), (jFdo, jDcc dC dI ca G0 none ph)] H_27 locs_27 := ((hh_22.call hb_271 hb_272 hb_273 hb_274 hS_27 rfl (L1 := [(r0, 13, 4, .ref bo), (bo, 2, 1, .int pc), (bo, 2, 0, .ref pa), (r0, 13, 3, .ref ou), (r0, 13, 2, .ref js), (js, 6, 7, .int pv), (js, 6, 8, .int pu), (js, 6, 0, .ref wk), (js, 6, 1, .ref wi), (js, 6, 2, .ref wz), (js, 6, 4, .ref jkf), (js, 6, 5, .ref jks), (r0, 13, 1, .ref fm), (fm, 4, 1, .int fl), (r0, 13, 7, .ref op), (op, 1, 2, .int sz)]) [0, 1, 2, 3, 4, 5, 6, 7, 8, 9, 10, 11, 12, 13, 14, 15] rfl rfl (M1 := [(wk, 140, 1502, ca 1, fk), (wi, 141, 1502, ca 1, fi), (wz, 142, 1502, ca 1, fz), (jkf, 144, 1502, ca 1, fa), (jks, 145, 1502, ca 1, fs)]) [0, 1, 2, 3, 4] rfl rfl (I1 := [([(2, 0), (2, 1)], jOl (dC, dI) G0 2 [bo, ou] s.heap), (jFy, jYb dC dI G0), (jFl, jLs dC dI ca G0 3 none), (jFdo, jDcc dC dI ca G0 none ph)]) [0, 1, 2, 3] rfl rfl).more hb_275)
        clear hh_22 ht_27 hvm_27 hz_27 hk_27 hS_27 hb_271 hb_272 hb_273 hb_274 hb_275
        have hr_28o := jOr.of hr_28
        clear hr_28
        have hr_28 := hr_28o
        clear hr_28o
        refine lv_iconst (v := 4) hx hb dX11_openDocument_104 (by decide) ?_
        refine lv_icmp_ne (tgt := 140) hx hb dX11_openDocument_105 (by decide) (fun c_29 => ?_) (fun c_29 => ?_)
        · skip
          have c_29' : r_28.toInt ≠ 4 := jb_ne (rfl) ((by decide)) c_29
          try clear hr_28
          refine lv_iconst (v := 0) hx hb dX11_openDocument_140 (by decide) ?_
          refine lv_istore (lv' := [(5, .int 0), (4, .int r_11), (3, .int r_9), (2, .int r_7), (1, .int r_5), (0, .ref r0)]) hx hb dX11_openDocument_141 hl (by decide) rfl (fun ls hl => ?_)
          refine lv_iload hx hb dX11_openDocument_143 (lv_at hl 0 rfl) ?_
          refine lv_if_eq (tgt := 168) hx hb dX11_openDocument_145 (by decide) (fun c_30 => ?_) (fun c_30 => ?_)
          · skip
            try clear hr_3_2
            try clear hsz_27 htt_27 hrc_27 hrs_27
            have hsz_31 := hh_27.2.2.2.2.2.1
            have htt_31 := hh_27.2.2.2.2.2.2.1
            refine W.room (fun hrc_31 hrs_31 => ?_)
            refine W.widen (k := LC - s.heap.size) (n := LS - jTot s.heap) (by omega) (by omega) ?_
            rw [hQ]
            exact W.vret hx hb hr (fun t ht hW => ⟨⟨(pc, pa, n_pa, ph, G0), rfl, by (try dsimp only); exact ⟨(by first | (with_reducible assumption) | omega | rfl | fail), (by first | (with_reducible assumption) | omega | rfl | fail), (by first | (with_reducible assumption) | omega | rfl | fail), (by first | (with_reducible assumption) | omega | rfl | fail), (by first | assumption | fail | omega), (by first | (with_reducible assumption) | omega | rfl | fail)⟩, ⟨hh_27.ra (by first | (simp only; omega) | omega) (by first | (simp only; omega) | omega) (M1 := [(bo, 2, 1, .int pc), (bo, 2, 0, .ref pa)]) [1, 2] rfl ht, hg_pa, jNk.rf, by rw [ht]; exact hh_27.iv 0 rfl, by rw [ht]; exact hh_27.2.2.2.2.2.2.2.2.sub (L1 := [(jFy, jYb dC dI G0), (jFl, jLs dC dI ca G0 3 none), (jFdo, jDcc dC dI ca G0 none ph)]) [1, 2, 3] rfl⟩⟩, by rw [ht]; try exact hh_27.1.1, fun q h9 hq => by rw [ht]; try exact hh_27.1.2.1 q h9 hq⟩) hh_27.1.2.2 dX11_openDocument_168
          · skip
            exact absurd c_30 (by decide)
        · skip
          have c_29' : r_28.toInt = 4 := jb_ne_n (rfl) ((by decide)) c_29
          first | (have hr_28q := hr_28.resolve_left (by omega); clear hr_28) | (have hr_28q := hr_28.resolve_right (by omega); clear hr_28) | try clear hr_28
          first | (have hr_9_2q := hr_9_2.resolve_left (by omega); clear hr_9_2) | (have hr_9_2q := hr_9_2.resolve_right (by omega); clear hr_9_2) | skip
          first | (have hr_11_2q := hr_11_2.resolve_left (by omega); clear hr_11_2) | (have hr_11_2q := hr_11_2.resolve_right (by omega); clear hr_11_2) | skip
          refine lv_aload_n hx hb dX11_openDocument_108 rfl (lv_at hl 4 rfl) ?_
          refine j7_read hx hb hown hK (C := RX11) (T := TX11) (N := 19) rfl hly_13_2 hlk_28 (hh_27.at 4 rfl) dX11_openDocument_109 ?_
          refine lv_iload hx hb dX11_openDocument_112 (lv_at hl 0 rfl) ?_
          try clear hsz_27 htt_27 hrc_27 hrs_27
          have hsz_32 := hh_27.2.2.2.2.2.1
          have htt_32 := hh_27.2.2.2.2.2.2.1
          refine W.room (fun hrc_32 hrs_32 => ?_)
          refine va_calli (A0 := jA base) (H0 := s.heap) (va_runV (As := [.int r_11]) (rest := []) ⟨hx, hb, hml, hown, hts⟩ (uX4_kindOfW l dC dI ca base B hB hAp hB6 hB140 G0 H_27 js r_11 pv wk wi wz fk fi fz) (cwV 1 hts (jgV (jWr_27 _ (List.mem_of_getElem? (i := 5) rfl)) (jWr_23 _ (List.mem_of_getElem? (i := 15) rfl)) (jWr_23 _ (List.mem_of_getElem? (i := 16) rfl)) (jWr_1 _ (List.mem_of_getElem? (i := 22) rfl)) (jWr_23 _ (List.mem_of_getElem? (i := 17) rfl))) rfl rfl rfl (by decide +kernel) ⟨by rw [← hR]; exact Nat.le_of_ble_eq_true rfl, by rw [← hR]; exact Nat.le_of_ble_eq_true rfl⟩) ⟨fun a U g mk q => by obtain ⟨q0, q1, q2, qK, q10, q11, q12, q13, q14, q15, q16⟩ := q; exact ⟨q0, q1, q2, jG.calling g mk a qK, q10, q11, q12, q13, q14, q15, q16⟩, hh_27.recv (C := RX4) (T := TX4) (N := 12) hB6 rfl (by decide) hg_js hK, fun U hU hW => ⟨rfl, hU, hh_27.2.1, hG.step hW hU hh_27.1, hg_js, hg_wk, hg_wi, hg_wz, (hh_27.2.2.1.sub (L1 := [(js, 6, 7, .int pv), (js, 6, 0, .ref wk), (js, 6, 1, .ref wi), (js, 6, 2, .ref wz)]) [5, 7, 8, 9] rfl), (hh_27.2.2.2.2.2.2.2.1.sub (L1 := [(wk, 140, 1502, ca 1, fk), (wi, 141, 1502, ca 1, fi), (wz, 142, 1502, ca 1, fz)]) [0, 1, 2] rfl), ⟨(by first | (with_reducible assumption) | omega | rfl | fail), (by first | (with_reducible assumption) | omega | rfl | fail)⟩⟩⟩ rfl rfl hl.1 rfl (lv_room (Nat.le_of_ble_eq_true rfl)) dX11_openDocument_114 ⟨by rw [hRc]; show _ + 0 ≤ _; omega, by rw [hRs]; show _ + 0 ≤ _; omega⟩) hh_27.1 (fun q _ h => h) (fun q h => h) (fun r_33 u_32 t_32 H_32 locs_32 ht_32 hvm_32 hr_33 hb_32 hz_32 hk_32 hS_32 => ?_)
          rw [ht_32] at hb_32
          obtain ⟨hb_32, hbF_32⟩ := hb_32
          obtain ⟨hb_321, hb_322, hb_323, hb_324, hb_325⟩ := hb_32
          have hh_32 : jSt (dC, dI) B base G0 G0 EX11_openDocument s.heap 0 0 [(r0, 13, 4, .ref bo), (bo, 2, 1, .int pc), (bo, 2, 0, .ref pa), (r0, 13, 3, .ref ou), (r0, 13, 2, .ref js), (js, 6, 7, .int pv), (js, 6, 8, .int pu), (js, 6, 0, .ref wk), (js, 6, 1, .ref wi), (js, 6, 2, .ref wz), (js, 6, 4, .ref jkf), (js, 6, 5, .ref jks), (r0, 13, 1, .ref fm), (fm, 4, 1, .int fl), (r0, 13, 7, .ref op), (op, 1, 2, .int sz)] [(wk, 140, 1502, ca 1, fk), (wi, 141, 1502, ca 1, fi), (wz, 142, 1502, ca 1, fz), (jkf, 144, 1502, ca 1, fa), (jks, 145, 1502, ca 1, fs)] [([(2, 0), (2, 1)], jOl (dC, dI) G0 2 [bo, ou] s.heap), (jFy, jYb dC dI G0), (jFl, jLs dC dI ca G0 3 none), (jFdo, jDcc dC dI ca G0 none ph)] H_32 locs_32 := ((hh_27.call hb_321 hb_322 hb_323 hb_324 hS_32 rfl (L1 := [(r0, 13, 4, .ref bo), (bo, 2, 1, .int pc), (bo, 2, 0, .ref pa), (r0, 13, 3, .ref ou), (r0, 13, 2, .ref js), (js, 6, 7, .int pv), (js, 6, 8, .int pu), (js, 6, 0, .ref wk), (js, 6, 1, .ref wi), (js, 6, 2, .ref wz), (js, 6, 4, .ref jkf), (js, 6, 5, .ref jks), (r0, 13, 1, .ref fm), (fm, 4, 1, .int fl), (r0, 13, 7, .ref op), (op, 1, 2, .int sz)]) [0, 1, 2, 3, 4, 5, 6, 7, 8, 9, 10, 11, 12, 13, 14, 15] rfl rfl (M1 := [(wk, 140, 1502, ca 1, fk), (wi, 141, 1502, ca 1, fi), (wz, 142, 1502, ca 1, fz), (jkf, 144, 1502, ca 1, fa), (jks, 145, 1502, ca 1, fs)]) [0, 1, 2, 3, 4] rfl rfl (I1 := [([(2, 0), (2, 1)], jOl (dC, dI) G0 2 [bo, ou] s.heap), (jFy, jYb dC dI G0), (jFl, jLs dC dI ca G0 3 none), (jFdo, jDcc dC dI ca G0 none ph)]) [0, 1, 2, 3] rfl rfl).more hb_325)
          clear hh_27 ht_32 hvm_32 hz_32 hk_32 hS_32 hb_321 hb_322 hb_323 hb_324 hb_325
          have hr_33o := jOr.of hr_33
          clear hr_33
          have hr_33 := hr_33o
          clear hr_33o
          refine lv_iconst (v := 3) hx hb dX11_openDocument_117 (by decide) ?_
          refine lv_icmp_ne (tgt := 140) hx hb dX11_openDocument_118 (by decide) (fun c_34 => ?_) (fun c_34 => ?_)
          · skip
            have c_34' : r_33.toInt ≠ 3 := jb_ne (rfl) ((by decide)) c_34
            try clear hr_33
            refine lv_iconst (v := 0) hx hb dX11_openDocument_140 (by decide) ?_
            refine lv_istore (lv' := [(5, .int 0), (4, .int r_11), (3, .int r_9), (2, .int r_7), (1, .int r_5), (0, .ref r0)]) hx hb dX11_openDocument_141 hl (by decide) rfl (fun ls hl => ?_)
            refine lv_iload hx hb dX11_openDocument_143 (lv_at hl 0 rfl) ?_
            refine lv_if_eq (tgt := 168) hx hb dX11_openDocument_145 (by decide) (fun c_35 => ?_) (fun c_35 => ?_)
            · skip
              try clear hr_3_2
              try clear hsz_32 htt_32 hrc_32 hrs_32
              have hsz_36 := hh_32.2.2.2.2.2.1
              have htt_36 := hh_32.2.2.2.2.2.2.1
              refine W.room (fun hrc_36 hrs_36 => ?_)
              refine W.widen (k := LC - s.heap.size) (n := LS - jTot s.heap) (by omega) (by omega) ?_
              rw [hQ]
              exact W.vret hx hb hr (fun t ht hW => ⟨⟨(pc, pa, n_pa, ph, G0), rfl, by (try dsimp only); exact ⟨(by first | (with_reducible assumption) | omega | rfl | fail), (by first | (with_reducible assumption) | omega | rfl | fail), (by first | (with_reducible assumption) | omega | rfl | fail), (by first | (with_reducible assumption) | omega | rfl | fail), (by first | assumption | fail | omega), (by first | (with_reducible assumption) | omega | rfl | fail)⟩, ⟨hh_32.ra (by first | (simp only; omega) | omega) (by first | (simp only; omega) | omega) (M1 := [(bo, 2, 1, .int pc), (bo, 2, 0, .ref pa)]) [1, 2] rfl ht, hg_pa, jNk.rf, by rw [ht]; exact hh_32.iv 0 rfl, by rw [ht]; exact hh_32.2.2.2.2.2.2.2.2.sub (L1 := [(jFy, jYb dC dI G0), (jFl, jLs dC dI ca G0 3 none), (jFdo, jDcc dC dI ca G0 none ph)]) [1, 2, 3] rfl⟩⟩, by rw [ht]; try exact hh_32.1.1, fun q h9 hq => by rw [ht]; try exact hh_32.1.2.1 q h9 hq⟩) hh_32.1.2.2 dX11_openDocument_168
            · skip
              exact absurd c_35 (by decide)
          · skip
            have c_34' : r_33.toInt = 3 := jb_ne_n (rfl) ((by decide)) c_34
            first | (have hr_33q := hr_33.resolve_left (by omega); clear hr_33) | (have hr_33q := hr_33.resolve_right (by omega); clear hr_33) | try clear hr_33
            first | (have hr_11_2q := hr_11_2.resolve_left (by omega); clear hr_11_2) | (have hr_11_2q := hr_11_2.resolve_right (by omega); clear hr_11_2) | skip
            first | (have hr_9_2q := hr_9_2.resolve_left (by omega); clear hr_9_2) | (have hr_9_2q := hr_9_2.resolve_right (by omega); clear hr_9_2) | skip
            first | (have hr_7_2q := hr_7_2.resolve_left (by omega); clear hr_7_2) | (have hr_7_2q := hr_7_2.resolve_right (by omega); clear hr_7_2) | skip
            first | (have hr_5_2q := hr_5_2.resolve_left (by omega); clear hr_5_2) | (have hr_5_2q := hr_5_2.resolve_right (by omega); clear hr_5_2) | skip
            first | (have hr_3_2q := hr_3_2.resolve_left (by omega); clear hr_3_2) | (have hr_3_2q := hr_3_2.resolve_right (by omega); clear hr_3_2) | try clear hr_3_2
            refine lv_aload_n hx hb dX11_openDocument_121 rfl (lv_at hl 4 rfl) ?_
            refine j7_read hx hb hown hK (C := RX11) (T := TX11) (N := 19) rfl hly_13_2 hlk_28 (hh_32.at 4 rfl) dX11_openDocument_122 ?_
            refine lv_iload hx hb dX11_openDocument_125 (lv_at hl 0 rfl) ?_
            try clear hsz_32 htt_32 hrc_32 hrs_32
            have hsz_37 := hh_32.2.2.2.2.2.1
            have htt_37 := hh_32.2.2.2.2.2.2.1
            refine W.room (fun hrc_37 hrs_37 => ?_)
            refine va_calli (A0 := jA base) (H0 := s.heap) (va_runV (As := [.int r_11]) (rest := []) ⟨hx, hb, hml, hown, hts⟩ (uX4_sizeOfW l dC dI ca base B hB hAp hB6 hB142 G0 H_32 js r_11 pv wk wi wz fk fi fz) (cwV 1 hts (jgV (jWr_35 _ (List.mem_of_getElem? (i := 18) rfl)) (jWr_24 _ (List.mem_of_getElem? (i := 7) rfl)) (jWr_24 _ (List.mem_of_getElem? (i := 8) rfl)) (jWr_1 _ (List.mem_of_getElem? (i := 22) rfl)) (jWr_24 _ (List.mem_of_getElem? (i := 9) rfl))) rfl rfl rfl (by decide +kernel) ⟨by rw [← hR]; exact Nat.le_of_ble_eq_true rfl, by rw [← hR]; exact Nat.le_of_ble_eq_true rfl⟩) ⟨fun a U g mk q => by obtain ⟨q0, q1, q2, qK, q10, q11, q12, q13, q14, q15, q16⟩ := q; exact ⟨q0, q1, q2, jG.calling g mk a qK, q10, q11, q12, q13, q14, q15, q16⟩, hh_32.recv (C := RX4) (T := TX4) (N := 12) hB6 rfl (by decide) hg_js hK, fun U hU hW => ⟨rfl, hU, hh_32.2.1, hG.step hW hU hh_32.1, hg_js, hg_wk, hg_wi, hg_wz, (hh_32.2.2.1.sub (L1 := [(js, 6, 7, .int pv), (js, 6, 0, .ref wk), (js, 6, 1, .ref wi), (js, 6, 2, .ref wz)]) [5, 7, 8, 9] rfl), (hh_32.2.2.2.2.2.2.2.1.sub (L1 := [(wk, 140, 1502, ca 1, fk), (wi, 141, 1502, ca 1, fi), (wz, 142, 1502, ca 1, fz)]) [0, 1, 2] rfl), ⟨(by first | (with_reducible assumption) | omega | rfl | fail), (by first | (with_reducible assumption) | omega | rfl | fail)⟩⟩⟩ rfl rfl hl.1 rfl (lv_room (Nat.le_of_ble_eq_true rfl)) dX11_openDocument_127 ⟨by rw [hRc]; show _ + 0 ≤ _; omega, by rw [hRs]; show _ + 0 ≤ _; omega⟩) hh_32.1 (fun q _ h => h) (fun q h => h) (fun r_38 u_37 t_37 H_37 locs_37 ht_37 hvm_37 hr_38 hb_37 hz_37 hk_37 hS_37 => ?_)
            rw [ht_37] at hb_37
            obtain ⟨hb_37, hbF_37⟩ := hb_37
            obtain ⟨hb_371, hb_372, hb_373, hb_374, hb_375⟩ := hb_37
            have hh_37 : jSt (dC, dI) B base G0 G0 EX11_openDocument s.heap 0 0 [(r0, 13, 4, .ref bo), (bo, 2, 1, .int pc), (bo, 2, 0, .ref pa), (r0, 13, 3, .ref ou), (r0, 13, 2, .ref js), (js, 6, 7, .int pv), (js, 6, 8, .int pu), (js, 6, 0, .ref wk), (js, 6, 1, .ref wi), (js, 6, 2, .ref wz), (js, 6, 4, .ref jkf), (js, 6, 5, .ref jks), (r0, 13, 1, .ref fm), (fm, 4, 1, .int fl), (r0, 13, 7, .ref op), (op, 1, 2, .int sz)] [(wk, 140, 1502, ca 1, fk), (wi, 141, 1502, ca 1, fi), (wz, 142, 1502, ca 1, fz), (jkf, 144, 1502, ca 1, fa), (jks, 145, 1502, ca 1, fs)] [([(2, 0), (2, 1)], jOl (dC, dI) G0 2 [bo, ou] s.heap), (jFy, jYb dC dI G0), (jFl, jLs dC dI ca G0 3 none), (jFdo, jDcc dC dI ca G0 none ph)] H_37 locs_37 := ((hh_32.call hb_371 hb_372 hb_373 hb_374 hS_37 rfl (L1 := [(r0, 13, 4, .ref bo), (bo, 2, 1, .int pc), (bo, 2, 0, .ref pa), (r0, 13, 3, .ref ou), (r0, 13, 2, .ref js), (js, 6, 7, .int pv), (js, 6, 8, .int pu), (js, 6, 0, .ref wk), (js, 6, 1, .ref wi), (js, 6, 2, .ref wz), (js, 6, 4, .ref jkf), (js, 6, 5, .ref jks), (r0, 13, 1, .ref fm), (fm, 4, 1, .int fl), (r0, 13, 7, .ref op), (op, 1, 2, .int sz)]) [0, 1, 2, 3, 4, 5, 6, 7, 8, 9, 10, 11, 12, 13, 14, 15] rfl rfl (M1 := [(wk, 140, 1502, ca 1, fk), (wi, 141, 1502, ca 1, fi), (wz, 142, 1502, ca 1, fz), (jkf, 144, 1502, ca 1, fa), (jks, 145, 1502, ca 1, fs)]) [0, 1, 2, 3, 4] rfl rfl (I1 := [([(2, 0), (2, 1)], jOl (dC, dI) G0 2 [bo, ou] s.heap), (jFy, jYb dC dI G0), (jFl, jLs dC dI ca G0 3 none), (jFdo, jDcc dC dI ca G0 none ph)]) [0, 1, 2, 3] rfl rfl).more hb_375)
            clear hh_32 ht_37 hvm_37 hz_37 hk_37 hS_37 hb_371 hb_372 hb_373 hb_374 hb_375
            have hr_38o := jOr.of hr_38
            clear hr_38
            have hr_38 := hr_38o
            clear hr_38o
            refine lv_sipush (v := 1500) hx hb dX11_openDocument_130 (by decide) ?_
            refine lv_icmp_gt (tgt := 140) hx hb dX11_openDocument_133 (by decide) (fun c_39 => ?_) (fun c_39 => ?_)
            · skip
              have c_39' : r_38.toInt > 1500 := jb_gt (rfl) ((by decide)) c_39
              first | (have hr_38q := hr_38.resolve_left (by omega); clear hr_38) | (have hr_38q := hr_38.resolve_right (by omega); clear hr_38) | try clear hr_38
              first | (have hr_11_2q := hr_11_2.resolve_left (by omega); clear hr_11_2) | (have hr_11_2q := hr_11_2.resolve_right (by omega); clear hr_11_2) | skip
              refine lv_iconst (v := 0) hx hb dX11_openDocument_140 (by decide) ?_
              refine lv_istore (lv' := [(5, .int 0), (4, .int r_11), (3, .int r_9), (2, .int r_7), (1, .int r_5), (0, .ref r0)]) hx hb dX11_openDocument_141 hl (by decide) rfl (fun ls hl => ?_)
              refine lv_iload hx hb dX11_openDocument_143 (lv_at hl 0 rfl) ?_
              refine lv_if_eq (tgt := 168) hx hb dX11_openDocument_145 (by decide) (fun c_40 => ?_) (fun c_40 => ?_)
              · skip
                try clear hr_3_2
                try clear hsz_37 htt_37 hrc_37 hrs_37
                have hsz_41 := hh_37.2.2.2.2.2.1
                have htt_41 := hh_37.2.2.2.2.2.2.1
                refine W.room (fun hrc_41 hrs_41 => ?_)
                refine W.widen (k := LC - s.heap.size) (n := LS - jTot s.heap) (by omega) (by omega) ?_
                rw [hQ]
                exact W.vret hx hb hr (fun t ht hW => ⟨⟨(pc, pa, n_pa, ph, G0), rfl, by (try dsimp only); exact ⟨(by first | (with_reducible assumption) | omega | rfl | fail), (by first | (with_reducible assumption) | omega | rfl | fail), (by first | (with_reducible assumption) | omega | rfl | fail), (by first | (with_reducible assumption) | omega | rfl | fail), (by first | assumption | fail | omega), (by first | (with_reducible assumption) | omega | rfl | fail)⟩, ⟨hh_37.ra (by first | (simp only; omega) | omega) (by first | (simp only; omega) | omega) (M1 := [(bo, 2, 1, .int pc), (bo, 2, 0, .ref pa)]) [1, 2] rfl ht, hg_pa, jNk.rf, by rw [ht]; exact hh_37.iv 0 rfl, by rw [ht]; exact hh_37.2.2.2.2.2.2.2.2.sub (L1 := [(jFy, jYb dC dI G0), (jFl, jLs dC dI ca G0 3 none), (jFdo, jDcc dC dI ca G0 none ph)]) [1, 2, 3] rfl⟩⟩, by rw [ht]; try exact hh_37.1.1, fun q h9 hq => by rw [ht]; try exact hh_37.1.2.1 q h9 hq⟩) hh_37.1.2.2 dX11_openDocument_168
              · skip
                exact absurd c_40 (by decide)
            · skip
              have c_39' : r_38.toInt ≤ 1500 := jb_gt_n (rfl) ((by decide)) c_39
              first | (have hr_38q := hr_38.resolve_left (by omega); clear hr_38) | (have hr_38q := hr_38.resolve_right (by omega); clear hr_38) | try clear hr_38
              first | (have hr_11_2q := hr_11_2.resolve_left (by omega); clear hr_11_2) | (have hr_11_2q := hr_11_2.resolve_right (by omega); clear hr_11_2) | skip
              refine lv_iconst (v := 1) hx hb dX11_openDocument_136 (by decide) ?_
              refine lv_goto (tgt := 141) hx hb dX11_openDocument_137 (by decide) ?_
              refine lv_istore (lv' := [(5, .int 1), (4, .int r_11), (3, .int r_9), (2, .int r_7), (1, .int r_5), (0, .ref r0)]) hx hb dX11_openDocument_141 hl (by decide) rfl (fun ls hl => ?_)
              refine lv_iload hx hb dX11_openDocument_143 (lv_at hl 0 rfl) ?_
              refine lv_if_eq (tgt := 168) hx hb dX11_openDocument_145 (by decide) (fun c_42 => ?_) (fun c_42 => ?_)
              · skip
                exact absurd c_42 (by decide)
              · skip
                try clear hr_3_2
                refine lv_aload_n hx hb dX11_openDocument_148 rfl (lv_at hl 5 rfl) ?_
                try clear hsz_37 htt_37 hrc_37 hrs_37
                have hsz_43 := hh_37.2.2.2.2.2.1
                have htt_43 := hh_37.2.2.2.2.2.2.1
                refine W.room (fun hrc_43 hrs_43 => ?_)
                refine j_callx (A0 := jA base) (H0 := s.heap) (va_runV (As := []) (rest := []) ⟨hx, hb, hml, hown, hts⟩ (uX11_addressedQ l dC dI ca base B hB hAp hB1 hB3 hB6 hB13 hB101 hB140 hB141 hB142 hB143 hB144 hB145 hB146 hB221 G0 H_37 r0 js pv pu wk wi wz jks fk fi fz fs) (cwV 0 hts (jgV (jWr_27 _ (List.mem_of_getElem? (i := 16) rfl)) (jWr_27 _ (List.mem_of_getElem? (i := 17) rfl)) (jWr_27 _ (List.mem_of_getElem? (i := 18) rfl)) (jWr_1 _ (List.mem_of_getElem? (i := 2) rfl)) (jWr_27 _ (List.mem_of_getElem? (i := 19) rfl))) rfl rfl rfl (by decide +kernel) ⟨by rw [← hR]; exact Nat.le_of_ble_eq_true rfl, by rw [← hR]; exact Nat.le_of_ble_eq_true rfl⟩) ⟨fun a U g mk q => by obtain ⟨q0, q1, q2, qK, q10, q11, q12, q13, q14, q15, q16, q17, q18, q19, q20⟩ := q; exact ⟨q0, q1, q2, jG.calling g mk a qK, (jK7.calling g mk a q10), q11, q12, q13, q14, q15, q16, q17, q18, q19, q20⟩, hh_37.recv (C := RX11) (T := TX11) (N := 19) hB13 rfl (by decide) hg_r0 hK, fun U hU hW => ⟨rfl, hU, hh_37.2.1, hG.step hW hU hh_37.1, (hK7.step hW hU hh_37.1), hg_r0, hg_js, hg_wk, hg_wi, hg_wz, hg_jks, (hh_37.2.2.1.sub (L1 := [(r0, 13, 2, .ref js), (js, 6, 7, .int pv), (js, 6, 8, .int pu), (js, 6, 0, .ref wk), (js, 6, 1, .ref wi), (js, 6, 2, .ref wz), (js, 6, 5, .ref jks)]) [4, 5, 6, 7, 8, 9, 11] rfl), (hh_37.2.2.2.2.2.2.2.1.sub (L1 := [(wk, 140, 1502, ca 1, fk), (wi, 141, 1502, ca 1, fi), (wz, 142, 1502, ca 1, fz), (jks, 145, 1502, ca 1, fs)]) [0, 1, 2, 4] rfl), (hh_37.2.2.2.2.2.2.2.2.sub (L1 := [(jFl, jLs dC dI ca G0 3 none)]) [2] rfl), ⟨(by first | (with_reducible assumption) | omega | rfl | fail), (by first | (with_reducible assumption) | omega | rfl | fail), (by first | (with_reducible assumption) | omega | rfl | fail), (by first | (with_reducible assumption) | omega | rfl | fail), (by first | assumption | fail | omega), (by first | assumption | fail | omega)⟩⟩⟩ rfl rfl hl.1 rfl (lv_room (Nat.le_of_ble_eq_true rfl)) dX11_openDocument_149 ⟨by rw [hRc]; show _ + 0 ≤ _; omega, by rw [hRs]; show _ + 0 ≤ _; omega⟩) hh_37.1 (fun q _ h => h) (fun q h => h) (fun r_44 u_43 t_43 H_43 locs_43 ht_43 hvm_43 hr_44 hb_43 hz_43 hk_43 hS_43 => ?_)
                rw [ht_43] at hb_43
                obtain ⟨hb_43, hbE_43⟩ := hb_43
                obtain ⟨hb_431, hb_432, hb_433, hb_434, hb_435⟩ := hb_43
                have hh_43 : jSt (dC, dI) B base G0 G0 EX11_openDocument s.heap 0 0 [(r0, 13, 4, .ref bo), (bo, 2, 1, .int pc), (bo, 2, 0, .ref pa), (r0, 13, 3, .ref ou), (r0, 13, 2, .ref js), (js, 6, 7, .int pv), (js, 6, 8, .int pu), (js, 6, 0, .ref wk), (js, 6, 1, .ref wi), (js, 6, 2, .ref wz), (js, 6, 4, .ref jkf), (js, 6, 5, .ref jks), (r0, 13, 1, .ref fm), (fm, 4, 1, .int fl), (r0, 13, 7, .ref op), (op, 1, 2, .int sz)] [(wk, 140, 1502, ca 1, fk), (wi, 141, 1502, ca 1, fi), (wz, 142, 1502, ca 1, fz), (jkf, 144, 1502, ca 1, fa), (jks, 145, 1502, ca 1, fs)] [(jFl, jLs dC dI ca G0 3 none), ([(2, 0), (2, 1)], jOl (dC, dI) G0 2 [bo, ou] s.heap), (jFy, jYb dC dI G0), (jFdo, jDcc dC dI ca G0 none ph)] H_43 locs_43 := (((hh_37.call hb_431 hb_432 hb_433 hb_434 hS_43 rfl (L1 := [(r0, 13, 4, .ref bo), (bo, 2, 1, .int pc), (bo, 2, 0, .ref pa), (r0, 13, 3, .ref ou), (r0, 13, 2, .ref js), (js, 6, 7, .int pv), (js, 6, 8, .int pu), (js, 6, 0, .ref wk), (js, 6, 1, .ref wi), (js, 6, 2, .ref wz), (js, 6, 4, .ref jkf), (js, 6, 5, .ref jks), (r0, 13, 1, .ref fm), (fm, 4, 1, .int fl), (r0, 13, 7, .ref op), (op, 1, 2, .int sz)]) [0, 1, 2, 3, 4, 5, 6, 7, 8, 9, 10, 11, 12, 13, 14, 15] rfl rfl (M1 := [(wk, 140, 1502, ca 1, fk), (wi, 141, 1502, ca 1, fi), (wz, 142, 1502, ca 1, fz), (jkf, 144, 1502, ca 1, fa), (jks, 145, 1502, ca 1, fs)]) [0, 1, 2, 3, 4] rfl rfl (I1 := [([(2, 0), (2, 1)], jOl (dC, dI) G0 2 [bo, ou] s.heap), (jFy, jYb dC dI G0), (jFdo, jDcc dC dI ca G0 none ph)]) [0, 1, 3] rfl rfl).more hb_435)).addIs hbE_43
                clear hh_37 ht_43 hvm_43 hz_43 hk_43 hS_43 hb_431 hb_432 hb_433 hb_434 hb_435
                clear  hbE_43
                obtain ⟨hr_44, hr_44p⟩ := hr_44
                rcases hr_44 with rfl | ⟨ret_45, rfl, hg_ret_45⟩
                · skip
                  refine lv_ifnonnullN hx hb dX11_openDocument_152 ?_
                  refine lv_aload_n hx hb dX11_openDocument_155 rfl (lv_at hl 5 rfl) ?_
                  refine j7_read hx hb hown hK (C := RX11) (T := TX11) (N := 19) rfl hly_13_7 hlk_61 (hh_43.at 14 rfl) dX11_openDocument_156 ?_
                  try clear hsz_43 htt_43 hrc_43 hrs_43
                  have hsz_46 := hh_43.2.2.2.2.2.1
                  have htt_46 := hh_43.2.2.2.2.2.2.1
                  refine W.room (fun hrc_46 hrs_46 => ?_)
                  refine va_callFi (A0 := jA base) (H0 := s.heap) (va_runF (hK.1 1 _ rfl).2 (As := []) (rest := []) ⟨hx, hb, hml, hown, hts⟩ (uJx4a65c_size_8abf5 l dC dI ca base B hB hAp hB1 G0 H_43 op 1 sz) (va_cwF 0 hts (jgF (jWr_27 _ (List.mem_of_getElem? (i := 22) rfl)) (jWr_27 _ (List.mem_of_getElem? (i := 23) rfl)) (jWr_28 _ (List.mem_of_getElem? (i := 0) rfl)) (jWr_2 _ (List.mem_of_getElem? (i := 13) rfl)) (jWr_28 _ (List.mem_of_getElem? (i := 1) rfl))) rfl rfl rfl hK7.2.2.2.2.2.1.1 ⟨by decide, by decide, by decide +kernel⟩ ⟨by rw [← hR]; exact Nat.le_of_ble_eq_true rfl, by rw [← hR]; exact Nat.le_of_ble_eq_true rfl⟩) ⟨fun a U g mk q => by obtain ⟨q0, q1, q2, qK, q10, q11, q12⟩ := q; exact ⟨q0, q1, q2, jG.calling g mk a qK, q10, q11, q12⟩, hh_43.recv (C := RJx4a65c) (T := TJx4a65c) (N := 3) hB1 rfl (by decide) hg_op hK, fun U hU hW => ⟨rfl, hU, hh_43.2.1, hG.step hW hU hh_43.1, hg_op, (hh_43.2.2.1.sub (L1 := [(op, 1, 2, .int sz)]) [15] rfl), trivial⟩⟩ rfl rfl hl.1 rfl (lv_room (Nat.le_of_ble_eq_true rfl)) dX11_openDocument_159 ⟨by rw [hRc]; show _ + 0 ≤ _; omega, by rw [hRs]; show _ + 0 ≤ _; omega⟩) hh_43.1 (fun q _ h => h) (fun q h => h) (fun r_47 u_46 t_46 H_46 locs_46 ht_46 hvm_46 hr_47 hb_46 hz_46 hk_46 hS_46 => ?_)
                  rw [ht_46] at hb_46
                  obtain ⟨hb_461, hb_462, hb_463, hb_464, hb_465⟩ := hb_46
                  have hh_46 : jSt (dC, dI) B base G0 G0 EX11_openDocument s.heap 0 0 [(r0, 13, 4, .ref bo), (bo, 2, 1, .int pc), (bo, 2, 0, .ref pa), (r0, 13, 3, .ref ou), (r0, 13, 2, .ref js), (js, 6, 7, .int pv), (js, 6, 8, .int pu), (js, 6, 0, .ref wk), (js, 6, 1, .ref wi), (js, 6, 2, .ref wz), (js, 6, 4, .ref jkf), (js, 6, 5, .ref jks), (r0, 13, 1, .ref fm), (fm, 4, 1, .int fl), (r0, 13, 7, .ref op), (op, 1, 2, .int sz)] [(wk, 140, 1502, ca 1, fk), (wi, 141, 1502, ca 1, fi), (wz, 142, 1502, ca 1, fz), (jkf, 144, 1502, ca 1, fa), (jks, 145, 1502, ca 1, fs)] [(jFl, jLs dC dI ca G0 3 none), ([(2, 0), (2, 1)], jOl (dC, dI) G0 2 [bo, ou] s.heap), (jFy, jYb dC dI G0), (jFdo, jDcc dC dI ca G0 none ph)] H_46 locs_46 := ((hh_43.call hb_461 hb_462 hb_463 hb_464 hS_46 rfl (L1 := [(r0, 13, 4, .ref bo), (bo, 2, 1, .int pc), (bo, 2, 0, .ref pa), (r0, 13, 3, .ref ou), (r0, 13, 2, .ref js), (js, 6, 7, .int pv), (js, 6, 8, .int pu), (js, 6, 0, .ref wk), (js, 6, 1, .ref wi), (js, 6, 2, .ref wz), (js, 6, 4, .ref jkf), (js, 6, 5, .ref jks), (r0, 13, 1, .ref fm), (fm, 4, 1, .int fl), (r0, 13, 7, .ref op), (op, 1, 2, .int sz)]) [0, 1, 2, 3, 4, 5, 6, 7, 8, 9, 10, 11, 12, 13, 14, 15] rfl rfl (M1 := [(wk, 140, 1502, ca 1, fk), (wi, 141, 1502, ca 1, fi), (wz, 142, 1502, ca 1, fz), (jkf, 144, 1502, ca 1, fa), (jks, 145, 1502, ca 1, fs)]) [0, 1, 2, 3, 4] rfl rfl (I1 := [(jFl, jLs dC dI ca G0 3 none), ([(2, 0), (2, 1)], jOl (dC, dI) G0 2 [bo, ou] s.heap), (jFy, jYb dC dI G0), (jFdo, jDcc dC dI ca G0 none ph)]) [0, 1, 2, 3] rfl rfl).more hb_465)
                  clear hh_43 ht_46 hvm_46 hz_46 hk_46 hS_46 hb_461 hb_462 hb_463 hb_464 hb_465
                  refine lv_iconst (v := 3) hx hb dX11_openDocument_164 (by decide) ?_
                  refine lv_icmp_lt (tgt := 169) hx hb dX11_openDocument_165 (by decide) (fun c_48 => ?_) (fun c_48 => ?_)
                  · skip
                    have c_48' : r_47.toInt < 3 := jb_lt (rfl) ((by decide)) c_48
                    have hby : 102 + jSo fz r_7.toInt + jSo fz r_11.toInt ≤ fl.toInt := jMg.opn (p := r_3.toInt) (d := r_5.toInt) (u := r_7.toInt) (v := r_9.toInt) (t := r_11.toInt) hp11 (jNde.of (by omega) (by omega) (by omega) (by omega)) (jNde.of (by omega) (by omega) (by omega) (by omega)) (jNde.of (by omega) (by omega) (by omega) (by omega)) (jNde.of (by omega) (by omega) (by omega) (by omega)) (jNde.of (by omega) (by omega) (by omega) (by omega))
                    have hzt := (hp9 r_11.toInt (by omega) (by omega) (by omega)).2.1
                    try clear hsz_46 htt_46 hrc_46 hrs_46
                    have hsz_49 := hh_46.2.2.2.2.2.1
                    have htt_49 := hh_46.2.2.2.2.2.2.1
                    refine j7_newo (k := 3) (C := RX1) (T := TX1) (N := 17) (fs := [.null, .int 0, .null, .int 0, .int 0, .null, .null, .null, .null, .null, .int 0, .null, .null, .int 0, .int 0, .int 0, .int 0]) hx hb htw jWc_wsX10 (fun k => ([(.array .int), .int, (.array .int), .int, .int, (.array .int), (.array .int), (.array .int), (.array .int), (.array (.object "ProofServer$State")), .int, (.array .int), (.object "ProofServer$State"), .int, .int, .int, .int] : List FieldType).getD k .int) (by decide +kernel) hown (htw (.classLink RX11 71 RX1) (jWr_2 _ (List.mem_of_getElem? (i := 17) rfl))) (htw (.instantiable RX1 17) (jWr_2 _ (List.mem_of_getElem? (i := 20) rfl))) (htw (.initialized RX1) (jWr_2 _ (List.mem_of_getElem? (i := 21) rfl))) hK rfl (fun j hj => by rcases (by omega : j = 0 ∨ j = 1 ∨ j = 2 ∨ j = 3 ∨ j = 4 ∨ j = 5 ∨ j = 6 ∨ j = 7 ∨ j = 8 ∨ j = 9 ∨ j = 10 ∨ j = 11 ∨ j = 12 ∨ j = 13 ∨ j = 14 ∨ j = 15 ∨ j = 16) with rfl | rfl | rfl | rfl | rfl | rfl | rfl | rfl | rfl | rfl | rfl | rfl | rfl | rfl | rfl | rfl | rfl <;> rfl) hh_46 hB (by rw [hRc]; omega) (by rw [hRs]; omega) dX11_openDocument_169 (fun H_49 hraw_49 hfr_49 hnr_49 hh_49 => ?_)
                    have hke_49 : jKe G0 G0 H_46 H_49 := jKe.raw hfr_49
                    have hbr_49 : base ≤ H_46.size := Nat.le_trans hbs hh_46.1.1
                    have hsy_49 : s.heap.size ≤ H_46.size := hh_46.1.1
                    clear hh_46
                    refine lv_dup hx hb dX11_openDocument_172 rfl ?_
                    try clear hsz_49 htt_49 hrc_49 hrs_49
                    have hsz_50 := hh_49.2.2.2.2.2.1
                    have htt_50 := hh_49.2.2.2.2.2.2.1
                    refine W.room (fun hrc_50 hrs_50 => ?_)
                    refine va_callv (A0 := jA base) (H0 := s.heap) (va_runIN (As := []) (rest := [.ref H_46.size]) ⟨hx, hb, hml, hown, hts⟩ (uX1_initE l dC dI ca base B hB hAp hB3 hB11 hB101 hB171 hB172 hB210 G0 H_49 H_46.size 0 (ph) LC LS) ⟨va_cnB 0 hts (jgW (jWr_10 _ (List.mem_of_getElem? (i := 3) rfl))) rfl rfl rfl (hG.2.2.1 RX11 81 yX1_init "ProofServer" (List.mem_of_getElem? (i := 434) (by decide +kernel))) (htw (.initialized RX1) (jWr_2 _ (List.mem_of_getElem? (i := 21) rfl))) (by decide +kernel) ⟨by rw [← hR]; exact Nat.le_of_ble_eq_true rfl, by rw [← hR]; exact Nat.le_of_ble_eq_true rfl⟩, rfl, htw (.instanceMethod yX1_init) (jWr_10 _ (List.mem_of_getElem? (i := 2) rfl))⟩ ⟨fun a U g mk q => by obtain ⟨q0, q1, q2, qK, q10, q11, q12, q13, q14, q15, q16, q17⟩ := q; exact ⟨q0, q1, q2, jG.calling g mk a qK, (va_K.moved (Vm.Alike.refl U.vm) q10), (jK6.moved (Vm.Alike.refl U.vm) q11), q12, q13, q14, q15, q16, q17⟩, fun U hU hW => ⟨rfl, hU, hh_49.2.1, hG.step hW hU hh_49.1, va_K.moved hW.alike hK2, jK6.moved hW.alike hK6, hraw_49, hnr_49, hbr_49, jP.nil, (hh_49.2.2.2.2.2.2.2.2.sub (L1 := [(jFdo, jDcc dC dI ca G0 none ph)]) [3] rfl), (by omega), (by omega), trivial⟩⟩ rfl rfl hl.1 rfl (lv_room (Nat.le_of_ble_eq_true rfl)) dX11_openDocument_173 ⟨by rw [hRc]; omega, by rw [hRs]; omega⟩) hh_49.1 (fun q _ h => h) (fun q h => h) (fun u_50 t_50 H_50 locs_50 ht_50 hvm_50 hr_51 hb_50 hz_50 hk_50 hS_50 => ?_)
                    obtain ⟨qk_50, qs_50, ql_50, G_50⟩ := u_50
                    rw [ht_50] at hb_50
                    simp only at hb_50
                    obtain ⟨⟨hb_501, hb_502, hb_503, hb_504, hb_505, hb_506⟩, hN_50, hgc_50, hbX_50, hbE_50⟩ := hb_50
                    have hh_50 : jSt (dC, dI) B base G0 G_50 EX11_openDocument s.heap ((0 + 1) + (7)) ((0 + 17) + (1700)) [(H_46.size, 3, 10, .int qk_50), (H_46.size, 3, 4, .int qs_50), (H_46.size, 3, 3, .int ql_50), (r0, 13, 4, .ref bo), (bo, 2, 1, .int pc), (bo, 2, 0, .ref pa), (r0, 13, 3, .ref ou), (r0, 13, 2, .ref js), (js, 6, 7, .int pv), (js, 6, 8, .int pu), (js, 6, 0, .ref wk), (js, 6, 1, .ref wi), (js, 6, 2, .ref wz), (js, 6, 4, .ref jkf), (js, 6, 5, .ref jks), (r0, 13, 1, .ref fm), (fm, 4, 1, .int fl), (r0, 13, 7, .ref op), (op, 1, 2, .int sz)] [(wk, 140, 1502, ca 1, fk), (wi, 141, 1502, ca 1, fi), (wz, 142, 1502, ca 1, fz), (jkf, 144, 1502, ca 1, fa), (jks, 145, 1502, ca 1, fs)] [(jFl, jLs dC dI ca G0 3 none), ([(2, 0), (2, 1)], jOl (dC, dI) G0 2 [bo, ou] s.heap), (jFy, jYb dC dI G0)] H_50 locs_50 := (hh_49.callG hb_501 hb_502 hb_503 hb_504 hb_505 hS_50 rfl (L1 := [(r0, 13, 4, .ref bo), (bo, 2, 1, .int pc), (bo, 2, 0, .ref pa), (r0, 13, 3, .ref ou), (r0, 13, 2, .ref js), (js, 6, 7, .int pv), (js, 6, 8, .int pu), (js, 6, 0, .ref wk), (js, 6, 1, .ref wi), (js, 6, 2, .ref wz), (js, 6, 4, .ref jkf), (js, 6, 5, .ref jks), (r0, 13, 1, .ref fm), (fm, 4, 1, .int fl), (r0, 13, 7, .ref op), (op, 1, 2, .int sz)]) [0, 1, 2, 3, 4, 5, 6, 7, 8, 9, 10, 11, 12, 13, 14, 15] rfl rfl (M1 := [(wk, 140, 1502, ca 1, fk), (wi, 141, 1502, ca 1, fi), (wz, 142, 1502, ca 1, fz), (jkf, 144, 1502, ca 1, fa), (jks, 145, 1502, ca 1, fs)]) [0, 1, 2, 3, 4] rfl rfl (I1 := [(jFl, jLs dC dI ca G0 3 none), ([(2, 0), (2, 1)], jOl (dC, dI) G0 2 [bo, ou] s.heap), (jFy, jYb dC dI G0)]) [0, 1, 2] rfl rfl).more hb_506
                    have hNn_50 : (jNk [0, 1, 2, 4, 5, 6, 7, 8, 9, 10, 11, 12, 13, 14, 15, 16]) G0 G_50 := (jNk.rf).tr hN_50
                    have hg_52 := hb_502 _ _ hg_r0
                    have hg_53 := hb_502 _ _ hg_bo
                    have hg_54 := hb_502 _ _ hg_pa
                    have hg_55 := hb_502 _ _ hg_ou
                    have hg_56 := hb_502 _ _ hg_js
                    have hg_57 := hb_502 _ _ hg_wk
                    have hg_58 := hb_502 _ _ hg_wi
                    have hg_59 := hb_502 _ _ hg_wz
                    have hg_60 := hb_502 _ _ hg_jkf
                    have hg_61 := hb_502 _ _ hg_jks
                    have hg_62 := hb_502 _ _ hg_fm
                    have hg_63 := hb_502 _ _ hg_op
                    have hd_64 := jLs.grow (hh_50.iv 0 rfl) hb_502 hN_50 (by decide)
                    have hh_65 := hh_50.sub (L1 := [(H_46.size, 3, 10, .int qk_50), (H_46.size, 3, 4, .int qs_50), (H_46.size, 3, 3, .int ql_50), (r0, 13, 4, .ref bo), (bo, 2, 1, .int pc), (bo, 2, 0, .ref pa), (r0, 13, 3, .ref ou), (r0, 13, 2, .ref js), (js, 6, 7, .int pv), (js, 6, 8, .int pu), (js, 6, 0, .ref wk), (js, 6, 1, .ref wi), (js, 6, 2, .ref wz), (js, 6, 4, .ref jkf), (js, 6, 5, .ref jks), (r0, 13, 1, .ref fm), (fm, 4, 1, .int fl), (r0, 13, 7, .ref op), (op, 1, 2, .int sz)]) [0, 1, 2, 3, 4, 5, 6, 7, 8, 9, 10, 11, 12, 13, 14, 15, 16, 17, 18] rfl (M1 := [(wk, 140, 1502, ca 1, fk), (wi, 141, 1502, ca 1, fi), (wz, 142, 1502, ca 1, fz), (jkf, 144, 1502, ca 1, fa), (jks, 145, 1502, ca 1, fs)]) [0, 1, 2, 3, 4] rfl (I1 := [([(2, 0), (2, 1)], jOl (dC, dI) G0 2 [bo, ou] s.heap), (jFy, jYb dC dI G0)]) [1, 2] rfl
                    clear hh_50
                    have hh_66 := hh_65.addI (jLs.ie hd_64)
                    clear hh_65
                    have hd_67 := jYb.grow (hh_66.iv 2 rfl) hb_502 hN_50 (by decide)
                    have hh_68 := hh_66.sub (L1 := [(H_46.size, 3, 10, .int qk_50), (H_46.size, 3, 4, .int qs_50), (H_46.size, 3, 3, .int ql_50), (r0, 13, 4, .ref bo), (bo, 2, 1, .int pc), (bo, 2, 0, .ref pa), (r0, 13, 3, .ref ou), (r0, 13, 2, .ref js), (js, 6, 7, .int pv), (js, 6, 8, .int pu), (js, 6, 0, .ref wk), (js, 6, 1, .ref wi), (js, 6, 2, .ref wz), (js, 6, 4, .ref jkf), (js, 6, 5, .ref jks), (r0, 13, 1, .ref fm), (fm, 4, 1, .int fl), (r0, 13, 7, .ref op), (op, 1, 2, .int sz)]) [0, 1, 2, 3, 4, 5, 6, 7, 8, 9, 10, 11, 12, 13, 14, 15, 16, 17, 18] rfl (M1 := [(wk, 140, 1502, ca 1, fk), (wi, 141, 1502, ca 1, fi), (wz, 142, 1502, ca 1, fz), (jkf, 144, 1502, ca 1, fa), (jks, 145, 1502, ca 1, fs)]) [0, 1, 2, 3, 4] rfl (I1 := [(jFl, jLs dC dI ca G_50 3 none), ([(2, 0), (2, 1)], jOl (dC, dI) G0 2 [bo, ou] s.heap)]) [0, 1] rfl
                    clear hh_66
                    have hh_69 := hh_68.addI (jYb.ie hd_67)
                    clear hh_68
                    have hh_70 := hh_69.addIs hbE_50
                    try simp only at hr_51
                    obtain ⟨hr_51_0, hr_51_1, hr_51_2⟩ := hr_51
                    refine lv_astore (lv' := [(6, .ref H_46.size), (5, .int 1), (4, .int r_11), (3, .int r_9), (2, .int r_7), (1, .int r_5), (0, .ref r0)]) hx hb dX11_openDocument_176 hl (by decide) rfl (fun ls hl => ?_)
                    refine lv_aload hx hb dX11_openDocument_178 (lv_at hl 0 rfl) ?_
                    refine lv_aload_n hx hb dX11_openDocument_180 rfl (lv_at hl 6 rfl) ?_
                    refine j7_read hx hb hown hK (C := RX11) (T := TX11) (N := 19) rfl hly_13_2 hlk_28 (hh_70.at 7 rfl) dX11_openDocument_181 ?_
                    refine lv_iload_n hx hb dX11_openDocument_184 rfl (lv_at hl 4 rfl) ?_
                    try clear hsz_50 htt_50 hrc_50 hrs_50
                    have hsz_71 := hh_70.2.2.2.2.2.1
                    have htt_71 := hh_70.2.2.2.2.2.2.1
                    refine W.room (fun hrc_71 hrs_71 => ?_)
                    refine j_callx (A0 := jA base) (H0 := s.heap) (va_runV (As := [.int r_7]) (rest := [.ref H_46.size]) ⟨hx, hb, hml, hown, hts⟩ (uX4_unitsOfS l dC dI ca base B hB hAp hB6 hB101 hB140 hB141 hB142 hB146 G_50 H_50 js r_7 pv wk wi wz fk fi fz LC LS) (cwV 1 hts (jgV (jWr_35 _ (List.mem_of_getElem? (i := 5) rfl)) (jWr_25 _ (List.mem_of_getElem? (i := 0) rfl)) (jWr_25 _ (List.mem_of_getElem? (i := 1) rfl)) (jWr_1 _ (List.mem_of_getElem? (i := 22) rfl)) (jWr_25 _ (List.mem_of_getElem? (i := 2) rfl))) rfl rfl rfl (by decide +kernel) ⟨by rw [← hR]; exact Nat.le_of_ble_eq_true rfl, by rw [← hR]; exact Nat.le_of_ble_eq_true rfl⟩) ⟨fun a U g mk q => by obtain ⟨q0, q1, q2, qK, q10, q11, q12, q13, q14, q15, q16⟩ := q; exact ⟨q0, q1, q2, jG.calling g mk a qK, q10, q11, q12, q13, q14, q15, q16⟩, hh_70.recv (C := RX4) (T := TX4) (N := 12) hB6 rfl (by decide) hg_56 hK, fun U hU hW => ⟨rfl, hU, hh_70.2.1, hG.step hW hU hh_70.1, hg_56, hg_57, hg_58, hg_59, (hh_70.2.2.1.sub (L1 := [(js, 6, 7, .int pv), (js, 6, 0, .ref wk), (js, 6, 1, .ref wi), (js, 6, 2, .ref wz)]) [8, 10, 11, 12] rfl), (hh_70.2.2.2.2.2.2.2.1.sub (L1 := [(wk, 140, 1502, ca 1, fk), (wi, 141, 1502, ca 1, fi), (wz, 142, 1502, ca 1, fz)]) [0, 1, 2] rfl), (by omega), (by omega), ⟨(by first | (with_reducible assumption) | omega | rfl | fail), (by first | (with_reducible assumption) | omega | rfl | fail), (by first | assumption | fail | omega)⟩⟩⟩ rfl rfl hl.1 rfl (lv_room (Nat.le_of_ble_eq_true rfl)) dX11_openDocument_185 ⟨by rw [hRc]; omega, by rw [hRs]; omega⟩) hh_70.1 (fun q _ h => h) (fun q h => h) (fun r_72 u_71 t_71 H_71 locs_71 ht_71 hvm_71 hr_72 hb_71 hz_71 hk_71 hS_71 => ?_)
                    rw [ht_71] at hb_71
                    obtain ⟨m_ret_71, G_71⟩ := u_71
                    simp only at hb_71
                    obtain ⟨⟨hb_711, hb_712, hb_713, hb_714, hb_715, hb_716⟩, hN_71⟩ := hb_71
                    have hE9_71 := hN_71
                    have hN_71 : (jNk [0, 1, 2, 4, 5, 6, 7, 8, 9, 10, 11, 12, 13, 14, 15, 16]) G_50 G_71 := hN_71.sub (by decide)
                    have hh_71 : jSt (dC, dI) B base G0 G_71 EX11_openDocument s.heap (((0 + 1) + (7)) + (1)) (((0 + 17) + (1700)) + (m_ret_71)) [(H_46.size, 3, 10, .int qk_50), (H_46.size, 3, 4, .int qs_50), (H_46.size, 3, 3, .int ql_50), (r0, 13, 4, .ref bo), (bo, 2, 1, .int pc), (bo, 2, 0, .ref pa), (r0, 13, 3, .ref ou), (r0, 13, 2, .ref js), (js, 6, 7, .int pv), (js, 6, 8, .int pu), (js, 6, 0, .ref wk), (js, 6, 1, .ref wi), (js, 6, 2, .ref wz), (js, 6, 4, .ref jkf), (js, 6, 5, .ref jks), (r0, 13, 1, .ref fm), (fm, 4, 1, .int fl), (r0, 13, 7, .ref op), (op, 1, 2, .int sz)] [(wk, 140, 1502, ca 1, fk), (wi, 141, 1502, ca 1, fi), (wz, 142, 1502, ca 1, fz), (jkf, 144, 1502, ca 1, fa), (jks, 145, 1502, ca 1, fs)] [(jFdo, jDcc dC dI ca G_50 none (ph + 1500)), (jFy, jYb dC dI G_50), (jFl, jLs dC dI ca G_50 3 none), ([(2, 0), (2, 1)], jOl (dC, dI) G0 2 [bo, ou] s.heap)] H_71 locs_71 := (hh_70.callG hb_711 hb_712 hb_713 hb_714 hb_715 hS_71 rfl (L1 := [(H_46.size, 3, 10, .int qk_50), (H_46.size, 3, 4, .int qs_50), (H_46.size, 3, 3, .int ql_50), (r0, 13, 4, .ref bo), (bo, 2, 1, .int pc), (bo, 2, 0, .ref pa), (r0, 13, 3, .ref ou), (r0, 13, 2, .ref js), (js, 6, 7, .int pv), (js, 6, 8, .int pu), (js, 6, 0, .ref wk), (js, 6, 1, .ref wi), (js, 6, 2, .ref wz), (js, 6, 4, .ref jkf), (js, 6, 5, .ref jks), (r0, 13, 1, .ref fm), (fm, 4, 1, .int fl), (r0, 13, 7, .ref op), (op, 1, 2, .int sz)]) [0, 1, 2, 3, 4, 5, 6, 7, 8, 9, 10, 11, 12, 13, 14, 15, 16, 17, 18] rfl rfl (M1 := [(wk, 140, 1502, ca 1, fk), (wi, 141, 1502, ca 1, fi), (wz, 142, 1502, ca 1, fz), (jkf, 144, 1502, ca 1, fa), (jks, 145, 1502, ca 1, fs)]) [0, 1, 2, 3, 4] rfl rfl (I1 := [(jFdo, jDcc dC dI ca G_50 none (ph + 1500)), (jFy, jYb dC dI G_50), (jFl, jLs dC dI ca G_50 3 none), ([(2, 0), (2, 1)], jOl (dC, dI) G0 2 [bo, ou] s.heap)]) [0, 1, 2, 3] rfl rfl).more hb_716
                    have hNn_71 : (jNk [0, 1, 2, 4, 5, 6, 7, 8, 9, 10, 11, 12, 13, 14, 15, 16]) G0 G_71 := (hNn_50).tr hN_71
                    have hg_73 := hb_712 _ _ hgc_50
                    have hg_74 := hb_712 _ _ hg_52
                    have hg_75 := hb_712 _ _ hg_53
                    have hg_76 := hb_712 _ _ hg_54
                    have hg_77 := hb_712 _ _ hg_55
                    have hg_78 := hb_712 _ _ hg_56
                    have hg_79 := hb_712 _ _ hg_57
                    have hg_80 := hb_712 _ _ hg_58
                    have hg_81 := hb_712 _ _ hg_59
                    have hg_82 := hb_712 _ _ hg_60
                    have hg_83 := hb_712 _ _ hg_61
                    have hg_84 := hb_712 _ _ hg_62
                    have hg_85 := hb_712 _ _ hg_63
                    have hd_86 := jDcc.grow (hh_71.iv 0 rfl) hb_712 hE9_71 (by decide)
                    have hh_87 := hh_71.sub (L1 := [(H_46.size, 3, 10, .int qk_50), (H_46.size, 3, 4, .int qs_50), (H_46.size, 3, 3, .int ql_50), (r0, 13, 4, .ref bo), (bo, 2, 1, .int pc), (bo, 2, 0, .ref pa), (r0, 13, 3, .ref ou), (r0, 13, 2, .ref js), (js, 6, 7, .int pv), (js, 6, 8, .int pu), (js, 6, 0, .ref wk), (js, 6, 1, .ref wi), (js, 6, 2, .ref wz), (js, 6, 4, .ref jkf), (js, 6, 5, .ref jks), (r0, 13, 1, .ref fm), (fm, 4, 1, .int fl), (r0, 13, 7, .ref op), (op, 1, 2, .int sz)]) [0, 1, 2, 3, 4, 5, 6, 7, 8, 9, 10, 11, 12, 13, 14, 15, 16, 17, 18] rfl (M1 := [(wk, 140, 1502, ca 1, fk), (wi, 141, 1502, ca 1, fi), (wz, 142, 1502, ca 1, fz), (jkf, 144, 1502, ca 1, fa), (jks, 145, 1502, ca 1, fs)]) [0, 1, 2, 3, 4] rfl (I1 := [(jFy, jYb dC dI G_50), (jFl, jLs dC dI ca G_50 3 none), ([(2, 0), (2, 1)], jOl (dC, dI) G0 2 [bo, ou] s.heap)]) [1, 2, 3] rfl
                    clear hh_71
                    have hh_88 := hh_87.addI (jDcc.ie hd_86)
                    clear hh_87
                    have hd_89 := jYb.grow (hh_88.iv 1 rfl) hb_712 hN_71 (by decide)
                    have hh_90 := hh_88.sub (L1 := [(H_46.size, 3, 10, .int qk_50), (H_46.size, 3, 4, .int qs_50), (H_46.size, 3, 3, .int ql_50), (r0, 13, 4, .ref bo), (bo, 2, 1, .int pc), (bo, 2, 0, .ref pa), (r0, 13, 3, .ref ou), (r0, 13, 2, .ref js), (js, 6, 7, .int pv), (js, 6, 8, .int pu), (js, 6, 0, .ref wk), (js, 6, 1, .ref wi), (js, 6, 2, .ref wz), (js, 6, 4, .ref jkf), (js, 6, 5, .ref jks), (r0, 13, 1, .ref fm), (fm, 4, 1, .int fl), (r0, 13, 7, .ref op), (op, 1, 2, .int sz)]) [0, 1, 2, 3, 4, 5, 6, 7, 8, 9, 10, 11, 12, 13, 14, 15, 16, 17, 18] rfl (M1 := [(wk, 140, 1502, ca 1, fk), (wi, 141, 1502, ca 1, fi), (wz, 142, 1502, ca 1, fz), (jkf, 144, 1502, ca 1, fa), (jks, 145, 1502, ca 1, fs)]) [0, 1, 2, 3, 4] rfl (I1 := [(jFdo, jDcc dC dI ca G_71 none (ph + 1500)), (jFl, jLs dC dI ca G_50 3 none), ([(2, 0), (2, 1)], jOl (dC, dI) G0 2 [bo, ou] s.heap)]) [0, 2, 3] rfl
                    clear hh_88
                    have hh_91 := hh_90.addI (jYb.ie hd_89)
                    clear hh_90
                    have hd_92 := jLs.grow (hh_91.iv 2 rfl) hb_712 hN_71 (by decide)
                    have hh_93 := hh_91.sub (L1 := [(H_46.size, 3, 10, .int qk_50), (H_46.size, 3, 4, .int qs_50), (H_46.size, 3, 3, .int ql_50), (r0, 13, 4, .ref bo), (bo, 2, 1, .int pc), (bo, 2, 0, .ref pa), (r0, 13, 3, .ref ou), (r0, 13, 2, .ref js), (js, 6, 7, .int pv), (js, 6, 8, .int pu), (js, 6, 0, .ref wk), (js, 6, 1, .ref wi), (js, 6, 2, .ref wz), (js, 6, 4, .ref jkf), (js, 6, 5, .ref jks), (r0, 13, 1, .ref fm), (fm, 4, 1, .int fl), (r0, 13, 7, .ref op), (op, 1, 2, .int sz)]) [0, 1, 2, 3, 4, 5, 6, 7, 8, 9, 10, 11, 12, 13, 14, 15, 16, 17, 18] rfl (M1 := [(wk, 140, 1502, ca 1, fk), (wi, 141, 1502, ca 1, fi), (wz, 142, 1502, ca 1, fz), (jkf, 144, 1502, ca 1, fa), (jks, 145, 1502, ca 1, fs)]) [0, 1, 2, 3, 4] rfl (I1 := [(jFy, jYb dC dI G_71), (jFdo, jDcc dC dI ca G_71 none (ph + 1500)), ([(2, 0), (2, 1)], jOl (dC, dI) G0 2 [bo, ou] s.heap)]) [0, 1, 3] rfl
                    clear hh_91
                    have hh_94 := hh_93.addI (jLs.ie hd_92)
                    clear hh_93
                    obtain ⟨hr_72, hr_72n, hr_72p⟩ := hr_72
                    try simp only at hr_72p
                    obtain ⟨hr_72p_0, hr_72p_1⟩ := hr_72p
                    obtain ⟨ret_95, rfl, hg_ret_95⟩ := hr_72
                    have hsy_71 : s.heap.size ≤ ret_95 := Nat.le_trans hh_70.1.1 hr_72n.le
                    refine j7_put hx hb hown hK hh_94 hB hAp hB3 (C := RX1) (T := TX1) (N := 17) rfl (by decide) hg_73 (i := 0) (by decide) hly_3_0 rfl hlk_348 rfl (ty := (.array .int)) (v := .ref ret_95) (by decide +kernel) rfl rfl (⟨_, _, rfl, hg_ret_95, by omega⟩) rfl (L1 := [(H_46.size, 3, 10, .int qk_50), (H_46.size, 3, 4, .int qs_50), (H_46.size, 3, 3, .int ql_50), (r0, 13, 4, .ref bo), (bo, 2, 1, .int pc), (bo, 2, 0, .ref pa), (r0, 13, 3, .ref ou), (r0, 13, 2, .ref js), (js, 6, 7, .int pv), (js, 6, 8, .int pu), (js, 6, 0, .ref wk), (js, 6, 1, .ref wi), (js, 6, 2, .ref wz), (js, 6, 4, .ref jkf), (js, 6, 5, .ref jks), (r0, 13, 1, .ref fm), (fm, 4, 1, .int fl), (r0, 13, 7, .ref op), (op, 1, 2, .int sz)]) [0, 1, 2, 3, 4, 5, 6, 7, 8, 9, 10, 11, 12, 13, 14, 15, 16, 17, 18] rfl rfl rfl dX11_openDocument_188 (fun H_96 locs_96 hh_96 => ?_)
                    clear hh_94
                    refine lv_aload hx hb dX11_openDocument_191 (lv_at hl 0 rfl) ?_
                    refine lv_aload_n hx hb dX11_openDocument_193 rfl (lv_at hl 6 rfl) ?_
                    refine j7_read hx hb hown hK (C := RX11) (T := TX11) (N := 19) rfl hly_13_2 hlk_28 (hh_96.at 8 rfl) dX11_openDocument_194 ?_
                    refine lv_iload_n hx hb dX11_openDocument_197 rfl (lv_at hl 3 rfl) ?_
                    try clear hsz_71 htt_71 hrc_71 hrs_71
                    have hsz_97 := hh_96.2.2.2.2.2.1
                    have htt_97 := hh_96.2.2.2.2.2.2.1
                    refine W.room (fun hrc_97 hrs_97 => ?_)
                    refine va_calli (A0 := jA base) (H0 := s.heap) (va_runV (As := [.int r_9]) (rest := [.ref H_46.size]) ⟨hx, hb, hml, hown, hts⟩ (uX4_valueOf l dC dI ca base B hB hAp hB6 hB141 G_71 H_96 js r_9) (cwV 1 hts (jgV (jWr_29 _ (List.mem_of_getElem? (i := 0) rfl)) (jWr_24 _ (List.mem_of_getElem? (i := 12) rfl)) (jWr_24 _ (List.mem_of_getElem? (i := 13) rfl)) (jWr_1 _ (List.mem_of_getElem? (i := 22) rfl)) (jWr_24 _ (List.mem_of_getElem? (i := 14) rfl))) rfl rfl rfl (by decide +kernel) ⟨by rw [← hR]; exact Nat.le_of_ble_eq_true rfl, by rw [← hR]; exact Nat.le_of_ble_eq_true rfl⟩) ⟨fun a U g mk q => by obtain ⟨q0, q1, q2, qK, q10, q11, q12⟩ := q; exact ⟨q0, q1, q2, jG.calling g mk a qK, q10, q11, q12⟩, hh_96.recv (C := RX4) (T := TX4) (N := 12) hB6 rfl (by decide) hg_78 hK, fun U hU hW => ⟨rfl, hU, hh_96.2.1, hG.step hW hU hh_96.1, hg_78, jP.nil, trivial⟩⟩ rfl rfl hl.1 rfl (lv_room (Nat.le_of_ble_eq_true rfl)) dX11_openDocument_198 ⟨by rw [hRc]; show _ + 0 ≤ _; omega, by rw [hRs]; show _ + 0 ≤ _; omega⟩) hh_96.1 (fun q _ h => h) (fun q h => h) (fun r_98 u_97 t_97 H_97 locs_97 ht_97 hvm_97 hr_98 hb_97 hz_97 hk_97 hS_97 => ?_)
                    rw [ht_97] at hb_97
                    obtain ⟨hb_971, hb_972, hb_973, hb_974, hb_975⟩ := hb_97
                    have hh_97 : jSt (dC, dI) B base G0 G_71 EX11_openDocument s.heap (((0 + 1) + (7)) + (1)) (((0 + 17) + (1700)) + (m_ret_71)) [(H_46.size, 3, 0, .ref ret_95), (H_46.size, 3, 10, .int qk_50), (H_46.size, 3, 4, .int qs_50), (H_46.size, 3, 3, .int ql_50), (r0, 13, 4, .ref bo), (bo, 2, 1, .int pc), (bo, 2, 0, .ref pa), (r0, 13, 3, .ref ou), (r0, 13, 2, .ref js), (js, 6, 7, .int pv), (js, 6, 8, .int pu), (js, 6, 0, .ref wk), (js, 6, 1, .ref wi), (js, 6, 2, .ref wz), (js, 6, 4, .ref jkf), (js, 6, 5, .ref jks), (r0, 13, 1, .ref fm), (fm, 4, 1, .int fl), (r0, 13, 7, .ref op), (op, 1, 2, .int sz)] [(wk, 140, 1502, ca 1, fk), (wi, 141, 1502, ca 1, fi), (wz, 142, 1502, ca 1, fz), (jkf, 144, 1502, ca 1, fa), (jks, 145, 1502, ca 1, fs)] [(jFl, jLs dC dI ca G_71 3 none), (jFy, jYb dC dI G_71), (jFdo, jDcc dC dI ca G_71 none (ph + 1500)), ([(2, 0), (2, 1)], jOl (dC, dI) G0 2 [bo, ou] s.heap)] H_97 locs_97 := ((hh_96.call hb_971 hb_972 hb_973 hb_974 hS_97 rfl (L1 := [(H_46.size, 3, 0, .ref ret_95), (H_46.size, 3, 10, .int qk_50), (H_46.size, 3, 4, .int qs_50), (H_46.size, 3, 3, .int ql_50), (r0, 13, 4, .ref bo), (bo, 2, 1, .int pc), (bo, 2, 0, .ref pa), (r0, 13, 3, .ref ou), (r0, 13, 2, .ref js), (js, 6, 7, .int pv), (js, 6, 8, .int pu), (js, 6, 0, .ref wk), (js, 6, 1, .ref wi), (js, 6, 2, .ref wz), (js, 6, 4, .ref jkf), (js, 6, 5, .ref jks), (r0, 13, 1, .ref fm), (fm, 4, 1, .int fl), (r0, 13, 7, .ref op), (op, 1, 2, .int sz)]) [0, 1, 2, 3, 4, 5, 6, 7, 8, 9, 10, 11, 12, 13, 14, 15, 16, 17, 18, 19] rfl rfl (M1 := [(wk, 140, 1502, ca 1, fk), (wi, 141, 1502, ca 1, fi), (wz, 142, 1502, ca 1, fz), (jkf, 144, 1502, ca 1, fa), (jks, 145, 1502, ca 1, fs)]) [0, 1, 2, 3, 4] rfl rfl (I1 := [(jFl, jLs dC dI ca G_71 3 none), (jFy, jYb dC dI G_71), (jFdo, jDcc dC dI ca G_71 none (ph + 1500)), ([(2, 0), (2, 1)], jOl (dC, dI) G0 2 [bo, ou] s.heap)]) [0, 1, 2, 3] rfl rfl).more hb_975)
                    clear hh_96 ht_97 hvm_97 hz_97 hk_97 hS_97 hb_971 hb_972 hb_973 hb_974 hb_975
                    refine j7_put hx hb hown hK hh_97 hB hAp hB3 (C := RX1) (T := TX1) (N := 17) rfl (by decide) hg_73 (i := 1) (by decide) hly_3_1 rfl hlk_162 rfl (ty := .int) (v := .int r_98) (by decide +kernel) rfl rfl (⟨_, rfl⟩) rfl (L1 := [(H_46.size, 3, 0, .ref ret_95), (H_46.size, 3, 10, .int qk_50), (H_46.size, 3, 4, .int qs_50), (H_46.size, 3, 3, .int ql_50), (r0, 13, 4, .ref bo), (bo, 2, 1, .int pc), (bo, 2, 0, .ref pa), (r0, 13, 3, .ref ou), (r0, 13, 2, .ref js), (js, 6, 7, .int pv), (js, 6, 8, .int pu), (js, 6, 0, .ref wk), (js, 6, 1, .ref wi), (js, 6, 2, .ref wz), (js, 6, 4, .ref jkf), (js, 6, 5, .ref jks), (r0, 13, 1, .ref fm), (fm, 4, 1, .int fl), (r0, 13, 7, .ref op), (op, 1, 2, .int sz)]) [0, 1, 2, 3, 4, 5, 6, 7, 8, 9, 10, 11, 12, 13, 14, 15, 16, 17, 18, 19] rfl rfl rfl dX11_openDocument_201 (fun H_99 locs_99 hh_99 => ?_)
                    clear hh_97
                    refine lv_aload hx hb dX11_openDocument_204 (lv_at hl 0 rfl) ?_
                    refine lv_iconst (v := 0) hx hb dX11_openDocument_206 (by decide) ?_
                    refine lv_iconst (v := 0) hx hb dX11_openDocument_207 (by decide) ?_
                    refine lv_aload_n hx hb dX11_openDocument_208 rfl (lv_at hl 6 rfl) ?_
                    refine j7_read hx hb hown hK (C := RX11) (T := TX11) (N := 19) rfl hly_13_2 hlk_28 (hh_99.at 9 rfl) dX11_openDocument_209 ?_
                    refine lv_iload hx hb dX11_openDocument_212 (lv_at hl 2 rfl) ?_
                    try clear hsz_97 htt_97 hrc_97 hrs_97
                    have hsz_100 := hh_99.2.2.2.2.2.1
                    have htt_100 := hh_99.2.2.2.2.2.2.1
                    refine W.room (fun hrc_100 hrs_100 => ?_)
                    refine va_calli (A0 := jA base) (H0 := s.heap) (va_runV (As := [.int 0, .int 0, .ref js, .int r_11]) (rest := []) ⟨hx, hb, hml, hown, hts⟩ (uX1_replaceQ l dC dI ca base B hB hAp hB3 hB6 hB101 hB140 hB141 hB142 hB146 G_71 H_99 H_46.size 0 0 js r_11 ql_50 pv wk wi wz fk fi fz) (cwV 4 hts (jgV (jWr_35 _ (List.mem_of_getElem? (i := 19) rfl)) (jWr_35 _ (List.mem_of_getElem? (i := 20) rfl)) (jWr_35 _ (List.mem_of_getElem? (i := 21) rfl)) (jWr_2 _ (List.mem_of_getElem? (i := 21) rfl)) (jWr_35 _ (List.mem_of_getElem? (i := 22) rfl))) rfl rfl rfl (by decide +kernel) ⟨by rw [← hR]; exact Nat.le_of_ble_eq_true rfl, by rw [← hR]; exact Nat.le_of_ble_eq_true rfl⟩) ⟨fun a U g mk q => by obtain ⟨q0, q1, q2, qK, q10, q11, q12, q13, q14, q15, q16, q17⟩ := q; exact ⟨q0, q1, q2, jG.calling g mk a qK, q10, q11, q12, q13, q14, q15, q16, q17⟩, hh_99.recv (C := RX1) (T := TX1) (N := 17) hB3 rfl (by decide) hg_73 hK, fun U hU hW => ⟨rfl, hU, hh_99.2.1, hG.step hW hU hh_99.1, hg_73, hg_78, hg_79, hg_80, hg_81, (hh_99.2.2.1.sub (L1 := [(H_46.size, 3, 3, .int ql_50), (js, 6, 7, .int pv), (js, 6, 0, .ref wk), (js, 6, 1, .ref wi), (js, 6, 2, .ref wz)]) [4, 10, 12, 13, 14] rfl), (hh_99.2.2.2.2.2.2.2.1.sub (L1 := [(wk, 140, 1502, ca 1, fk), (wi, 141, 1502, ca 1, fi), (wz, 142, 1502, ca 1, fz)]) [0, 1, 2] rfl), ⟨(by first | (with_reducible assumption) | omega | rfl | fail), (by first | (with_reducible assumption) | omega | rfl | fail), (by first | (with_reducible assumption) | omega | rfl | fail), (by first | (with_reducible assumption) | omega | rfl | fail), (by first | (with_reducible assumption) | omega | rfl | fail), (by first | (with_reducible assumption) | omega | rfl | fail)⟩⟩⟩ rfl rfl hl.1 rfl (lv_room (Nat.le_of_ble_eq_true rfl)) dX11_openDocument_214 ⟨by rw [hRc]; show _ + 0 ≤ _; omega, by rw [hRs]; show _ + 0 ≤ _; omega⟩) hh_99.1 (fun q _ h => h) (fun q h => h) (fun r_101 u_100 t_100 H_100 locs_100 ht_100 hvm_100 hr_101 hb_100 hz_100 hk_100 hS_100 => ?_)
                    obtain ⟨ql_100, rfl⟩ : ∃ z, z = u_100 := ⟨_, rfl⟩
                    rw [ht_100] at hb_100
                    obtain ⟨hb_1001, hb_1002, hb_1003, hb_1004, hb_1005⟩ := hb_100
                    have hh_100 : jSt (dC, dI) B base G0 G_71 EX11_openDocument s.heap (((0 + 1) + (7)) + (1)) (((0 + 17) + (1700)) + (m_ret_71)) [(H_46.size, 3, 3, .int ql_100), (H_46.size, 3, 1, .int r_98), (H_46.size, 3, 0, .ref ret_95), (H_46.size, 3, 10, .int qk_50), (H_46.size, 3, 4, .int qs_50), (r0, 13, 4, .ref bo), (bo, 2, 1, .int pc), (bo, 2, 0, .ref pa), (r0, 13, 3, .ref ou), (r0, 13, 2, .ref js), (js, 6, 7, .int pv), (js, 6, 8, .int pu), (js, 6, 0, .ref wk), (js, 6, 1, .ref wi), (js, 6, 2, .ref wz), (js, 6, 4, .ref jkf), (js, 6, 5, .ref jks), (r0, 13, 1, .ref fm), (fm, 4, 1, .int fl), (r0, 13, 7, .ref op), (op, 1, 2, .int sz)] [(wk, 140, 1502, ca 1, fk), (wi, 141, 1502, ca 1, fi), (wz, 142, 1502, ca 1, fz), (jkf, 144, 1502, ca 1, fa), (jks, 145, 1502, ca 1, fs)] [(jFl, jLs dC dI ca G_71 3 none), (jFy, jYb dC dI G_71), (jFdo, jDcc dC dI ca G_71 none (ph + 1500)), ([(2, 0), (2, 1)], jOl (dC, dI) G0 2 [bo, ou] s.heap)] H_100 locs_100 := ((hh_99.call hb_1001 hb_1002 hb_1003 hb_1004 hS_100 rfl (L1 := [(H_46.size, 3, 1, .int r_98), (H_46.size, 3, 0, .ref ret_95), (H_46.size, 3, 10, .int qk_50), (H_46.size, 3, 4, .int qs_50), (r0, 13, 4, .ref bo), (bo, 2, 1, .int pc), (bo, 2, 0, .ref pa), (r0, 13, 3, .ref ou), (r0, 13, 2, .ref js), (js, 6, 7, .int pv), (js, 6, 8, .int pu), (js, 6, 0, .ref wk), (js, 6, 1, .ref wi), (js, 6, 2, .ref wz), (js, 6, 4, .ref jkf), (js, 6, 5, .ref jks), (r0, 13, 1, .ref fm), (fm, 4, 1, .int fl), (r0, 13, 7, .ref op), (op, 1, 2, .int sz)]) [0, 1, 2, 3, 5, 6, 7, 8, 9, 10, 11, 12, 13, 14, 15, 16, 17, 18, 19, 20] rfl rfl (M1 := [(wk, 140, 1502, ca 1, fk), (wi, 141, 1502, ca 1, fi), (wz, 142, 1502, ca 1, fz), (jkf, 144, 1502, ca 1, fa), (jks, 145, 1502, ca 1, fs)]) [0, 1, 2, 3, 4] rfl rfl (I1 := [(jFl, jLs dC dI ca G_71 3 none), (jFy, jYb dC dI G_71), (jFdo, jDcc dC dI ca G_71 none (ph + 1500)), ([(2, 0), (2, 1)], jOl (dC, dI) G0 2 [bo, ou] s.heap)]) [0, 1, 2, 3] rfl rfl).more hb_1005)
                    clear hh_99 ht_100 hvm_100 hz_100 hk_100 hS_100 hb_1001 hb_1002 hb_1003 hb_1004 hb_1005
                    obtain ⟨hr_101b, hr_101p⟩ := hr_101
                    obtain ⟨hr_101p_0, hr_101p_1, hr_101p_2⟩ := hr_101p
                    have hr_101p_2o := jOr.of hr_101p_2
                    clear hr_101p_2
                    have hr_101p_2 := hr_101p_2o
                    clear hr_101p_2o
                    have hr_101' := jb_01 hr_101b
                    refine lv_pop hx hb dX11_openDocument_217 rfl ?_
                    obtain ⟨yb_102, ye_102, w_102, pho_102, fb_102, fe_102, ps_102, pk_102, vc_102, hgb_102, hge_102, h5_102, h6_102, hd_102, hpq_102, hE_102, hpl_102, hpw_102⟩ := jDcc.opn (hh_100.iv 2 rfl) hg_73
                    have hpw_102 := hpw_102 rfl
                    have hh_104 := hh_100.sub (L1 := [(H_46.size, 3, 3, .int ql_100), (H_46.size, 3, 1, .int r_98), (H_46.size, 3, 0, .ref ret_95), (H_46.size, 3, 10, .int qk_50), (H_46.size, 3, 4, .int qs_50), (r0, 13, 4, .ref bo), (bo, 2, 1, .int pc), (bo, 2, 0, .ref pa), (r0, 13, 3, .ref ou), (r0, 13, 2, .ref js), (js, 6, 7, .int pv), (js, 6, 8, .int pu), (js, 6, 0, .ref wk), (js, 6, 1, .ref wi), (js, 6, 2, .ref wz), (js, 6, 4, .ref jkf), (js, 6, 5, .ref jks), (r0, 13, 1, .ref fm), (fm, 4, 1, .int fl), (r0, 13, 7, .ref op), (op, 1, 2, .int sz)]) [0, 1, 2, 3, 4, 5, 6, 7, 8, 9, 10, 11, 12, 13, 14, 15, 16, 17, 18, 19, 20] rfl (M1 := [(wk, 140, 1502, ca 1, fk), (wi, 141, 1502, ca 1, fi), (wz, 142, 1502, ca 1, fz), (jkf, 144, 1502, ca 1, fa), (jks, 145, 1502, ca 1, fs)]) [0, 1, 2, 3, 4] rfl (I1 := [(jFl, jLs dC dI ca G_71 3 none), (jFy, jYb dC dI G_71), ([(2, 0), (2, 1)], jOl (dC, dI) G0 2 [bo, ou] s.heap)]) [0, 1, 3] rfl
                    clear hh_100
                    obtain rfl : qs_50 = ps_102 := Value.int.inj (jf.uniq (hh_104.at 4 rfl) (hd_102.1 _ (List.mem_of_getElem? (i := 0) rfl)).2)
                    obtain rfl : qk_50 = pk_102 := Value.int.inj (jf.uniq (hh_104.at 3 rfl) (hd_102.1 _ (List.mem_of_getElem? (i := 1) rfl)).2)
                    have hh_105 := (hh_104.more (P1 := [(H_46.size, 3, 4, .int qs_50), (H_46.size, 3, 10, .int qk_50), (H_46.size, 3, 5, .ref yb_102), (H_46.size, 3, 6, .ref ye_102)]) (jP.cons hg_73 (hd_102.1 _ (List.mem_of_getElem? (i := 0) rfl)).2 (jP.cons hg_73 (hd_102.1 _ (List.mem_of_getElem? (i := 1) rfl)).2 (jP.cons hg_73 h5_102 (jP.cons hg_73 h6_102 jP.nil))))).moreM hd_102.2.1
                    have hh_106 := hh_105.addI (jDcc.ie hE_102)
                    clear hh_105
                    have hps_102 := hd_102.2.2.2
                    have hsn_102 := hd_102.2.2.1
                    obtain ⟨v_107, hv_107, hh_102⟩ := hh_106.pin (C := RX1) (T := TX1) (N := 17) hB3 rfl (by decide) hg_73 (i := 11) (by decide) rfl
                    have hvq_102 : vc_102 = v_107 := jf.uniq (hd_102.1 _ (List.mem_of_getElem? (i := 2) rfl)).2 (hh_102.at 0 rfl)
                    subst hvq_102
                    clear hh_106
                    rcases hv_107 with rfl | ⟨chk_108, nchk_108, rfl, hg_chk_108, hlen_chk_108⟩
                    · have hpo_102 := jPo.nul (hpq_102 rfl)
                      refine lv_aload hx hb dX11_openDocument_218 (lv_at hl 0 rfl) ?_
                      refine lv_aload_n hx hb dX11_openDocument_220 rfl (lv_at hl 6 rfl) ?_
                      obtain ⟨v_110, hv_110, hh_111⟩ := hh_102.pin (C := RX11) (T := TX11) (N := 19) hB13 rfl (by decide) hg_74 (i := 5) (by decide) rfl
                      clear hh_102
                      obtain ⟨kernel_112, rfl, hg_kernel_112⟩ := hv_110
                      refine j7_read hx hb hown hK (C := RX11) (T := TX11) (N := 19) rfl hly_13_5 hlk_41 (hh_111.at 0 rfl) dX11_openDocument_221 ?_
                      obtain ⟨v_113, hv_113, hh_114⟩ := hh_111.pin (C := RX5) (T := TX5) (N := 11) hB7 rfl (by decide) hg_kernel_112 (i := 1) (by decide) rfl
                      clear hh_111
                      obtain ⟨syntax_115, rfl, hg_syntax_115⟩ := hv_113
                      refine j7_read hx hb hown hK (C := RX5) (T := TX5) (N := 11) rfl hly_7_1 hlk_203 (hh_114.at 0 rfl) dX11_openDocument_224 ?_
                      try clear hsz_100 htt_100 hrc_100 hrs_100
                      have hsz_116 := hh_114.2.2.2.2.2.1
                      have htt_116 := hh_114.2.2.2.2.2.2.1
                      refine W.room (fun hrc_116 hrs_116 => ?_)
                      refine va_callv (A0 := jA base) (H0 := s.heap) (va_runV (As := [.ref syntax_115]) (rest := []) ⟨hx, hb, hml, hown, hts⟩ (uX1_partE l dC dI ca base B hB hAp hB3 hB8 hB12 hB101 hB102 hB132 hB133 hB171 hB172 hB293 G_71 H_100 H_46.size syntax_115 0 ql_100 yb_102 ye_102 (pho_102) fb_102 fe_102) (cwV 1 hts (jgV (jWr_36 _ (List.mem_of_getElem? (i := 2) rfl)) (jWr_36 _ (List.mem_of_getElem? (i := 3) rfl)) (jWr_36 _ (List.mem_of_getElem? (i := 4) rfl)) (jWr_2 _ (List.mem_of_getElem? (i := 21) rfl)) (jWr_36 _ (List.mem_of_getElem? (i := 5) rfl))) rfl rfl rfl (by decide +kernel) ⟨by rw [← hR]; exact Nat.le_of_ble_eq_true rfl, by rw [← hR]; exact Nat.le_of_ble_eq_true rfl⟩) ⟨fun a U g mk q => by obtain ⟨q0, q1, q2, qK, q10, q11, q12, q13, q14, q15, q16, q17⟩ := q; exact ⟨q0, q1, q2, jG.calling g mk a qK, q10, q11, q12, q13, q14, q15, q16, q17⟩, hh_114.recv (C := RX1) (T := TX1) (N := 17) hB3 rfl (by decide) hg_73 hK, fun U hU hW => ⟨rfl, hU, hh_114.2.1, hG.step hW hU hh_114.1, hg_73, hg_syntax_115, hgb_102, hge_102, (hh_114.2.2.1.sub (L1 := [(H_46.size, 3, 3, .int ql_100), (H_46.size, 3, 5, .ref yb_102), (H_46.size, 3, 6, .ref ye_102)]) [7, 5, 6] rfl), (hh_114.2.2.2.2.2.2.2.1.sub (L1 := [(yb_102, 171, 40, ca 1, fb_102), (ye_102, 172, 40, ca 1, fe_102)]) [0, 1] rfl), (hh_114.2.2.2.2.2.2.2.2.sub (L1 := [(jFdo, jDcc dC dI ca G_71 (some H_46.size) pho_102)]) [0] rfl), ⟨(by first | (with_reducible assumption) | omega | rfl | fail), (by first | (with_reducible assumption) | omega | rfl | fail)⟩⟩⟩ rfl rfl hl.1 rfl (lv_room (Nat.le_of_ble_eq_true rfl)) dX11_openDocument_227 ⟨by rw [hRc]; show _ + 0 ≤ _; omega, by rw [hRs]; show _ + 0 ≤ _; omega⟩) hh_114.1 (fun q _ h => h) (fun q h => h) (fun u_116 t_116 H_116 locs_116 ht_116 hvm_116 hr_117 hb_116 hz_116 hk_116 hS_116 => ?_)
                      obtain ⟨qs_116, gb_116, ge_116⟩ := u_116
                      rw [ht_116] at hb_116
                      obtain ⟨hb_116, hbE_116⟩ := hb_116
                      obtain ⟨hb_116, hbO_116⟩ := hb_116
                      obtain ⟨⟨hb_1161, hb_1162, hb_1163, hb_1164, hb_1165⟩, hb_1166⟩ := hb_116
                      have hh_116 : jSt (dC, dI) B base G0 G_71 EX11_openDocument s.heap (((0 + 1) + (7)) + (1)) (((0 + 17) + (1700)) + (m_ret_71)) [(H_46.size, 3, 4, .int qs_116), (kernel_112, 7, 1, .ref syntax_115), (r0, 13, 5, .ref kernel_112), (H_46.size, 3, 11, .null), (H_46.size, 3, 10, .int qk_50), (H_46.size, 3, 5, .ref yb_102), (H_46.size, 3, 6, .ref ye_102), (H_46.size, 3, 3, .int ql_100), (H_46.size, 3, 1, .int r_98), (H_46.size, 3, 0, .ref ret_95), (H_46.size, 3, 10, .int qk_50), (r0, 13, 4, .ref bo), (bo, 2, 1, .int pc), (bo, 2, 0, .ref pa), (r0, 13, 3, .ref ou), (r0, 13, 2, .ref js), (js, 6, 7, .int pv), (js, 6, 8, .int pu), (js, 6, 0, .ref wk), (js, 6, 1, .ref wi), (js, 6, 2, .ref wz), (js, 6, 4, .ref jkf), (js, 6, 5, .ref jks), (r0, 13, 1, .ref fm), (fm, 4, 1, .int fl), (r0, 13, 7, .ref op), (op, 1, 2, .int sz)] [(yb_102, 171, 40, ca 1, gb_116), (ye_102, 172, 40, ca 1, ge_116), (wk, 140, 1502, ca 1, fk), (wi, 141, 1502, ca 1, fi), (wz, 142, 1502, ca 1, fz), (jkf, 144, 1502, ca 1, fa), (jks, 145, 1502, ca 1, fs)] [(jFdo, jDcc dC dI ca G_71 (some H_46.size) pho_102), (jFl, jLs dC dI ca G_71 3 none), (jFy, jYb dC dI G_71), ([(2, 0), (2, 1)], jOl (dC, dI) G0 2 [bo, ou] s.heap)] H_116 locs_116 := (((hh_114.call hb_1161 hb_1162 hb_1163 hb_1164 hS_116 rfl (L1 := [(kernel_112, 7, 1, .ref syntax_115), (r0, 13, 5, .ref kernel_112), (H_46.size, 3, 11, .null), (H_46.size, 3, 10, .int qk_50), (H_46.size, 3, 5, .ref yb_102), (H_46.size, 3, 6, .ref ye_102), (H_46.size, 3, 3, .int ql_100), (H_46.size, 3, 1, .int r_98), (H_46.size, 3, 0, .ref ret_95), (H_46.size, 3, 10, .int qk_50), (r0, 13, 4, .ref bo), (bo, 2, 1, .int pc), (bo, 2, 0, .ref pa), (r0, 13, 3, .ref ou), (r0, 13, 2, .ref js), (js, 6, 7, .int pv), (js, 6, 8, .int pu), (js, 6, 0, .ref wk), (js, 6, 1, .ref wi), (js, 6, 2, .ref wz), (js, 6, 4, .ref jkf), (js, 6, 5, .ref jks), (r0, 13, 1, .ref fm), (fm, 4, 1, .int fl), (r0, 13, 7, .ref op), (op, 1, 2, .int sz)]) [0, 1, 2, 4, 5, 6, 7, 8, 9, 10, 12, 13, 14, 15, 16, 17, 18, 19, 20, 21, 22, 23, 24, 25, 26, 27] rfl rfl (M1 := [(wk, 140, 1502, ca 1, fk), (wi, 141, 1502, ca 1, fi), (wz, 142, 1502, ca 1, fz), (jkf, 144, 1502, ca 1, fa), (jks, 145, 1502, ca 1, fs)]) [2, 3, 4, 5, 6] rfl rfl (I1 := [(jFl, jLs dC dI ca G_71 3 none), (jFy, jYb dC dI G_71), ([(2, 0), (2, 1)], jOl (dC, dI) G0 2 [bo, ou] s.heap)]) [1, 2, 3] rfl rfl).more hb_1165).moreM hb_1166).addIs hbE_116
                      clear hh_114 ht_116 hvm_116 hz_116 hk_116 hS_116 hb_1161 hb_1162 hb_1163 hb_1164 hb_1165
                      clear hb_1166
                      clear  hbE_116
                      try simp only at hr_117
                      obtain ⟨hr_117_0, hr_117_1, hr_117_2⟩ := hr_117
                      have hjz := jEd.z (fe := ge_116) (k := qk_50.toInt) (by omega)
                      have hqo := jOr.or hr_101p_2
                      have hsl := jSn.le hr_117_2 (by omega)
                      obtain ⟨phn_118, hphn_118⟩ : ∃ q : Nat, q = pho_102 + (575 * (qs_116.toInt - qk_50.toInt) + (1500 - jEd ge_116 qk_50.toInt)).toNat := ⟨_, rfl⟩
                      have hF_118 := jDcc.full (ph1 := phn_118) (hh_116.iv 0 rfl) hg_73 (hh_116.at 5 rfl) (hh_116.at 6 rfl) ⟨(hh_116.2.2.1.sub (L1 := [(H_46.size, 3, 4, .int qs_116), (H_46.size, 3, 10, .int qk_50), (H_46.size, 3, 11, .null)]) [0, 4, 3] rfl), (hh_116.2.2.2.2.2.2.2.1.sub (L1 := [(yb_102, 171, 40, ca 1, gb_116), (ye_102, 172, 40, ca 1, ge_116)]) [0, 1] rfl), (hr_117_2.mono (by omega)), by omega⟩ (w := (575 * (qs_116.toInt - qk_50.toInt) + (1500 - jEd ge_116 qk_50.toInt)).toNat) (fun _ => jPo.mkN (by omega)) (by omega) (fun _ => by omega)
                      have hh_119 := hh_116.sub (L1 := [(H_46.size, 3, 4, .int qs_116), (kernel_112, 7, 1, .ref syntax_115), (r0, 13, 5, .ref kernel_112), (H_46.size, 3, 11, .null), (H_46.size, 3, 10, .int qk_50), (H_46.size, 3, 5, .ref yb_102), (H_46.size, 3, 6, .ref ye_102), (H_46.size, 3, 3, .int ql_100), (H_46.size, 3, 1, .int r_98), (H_46.size, 3, 0, .ref ret_95), (H_46.size, 3, 10, .int qk_50), (r0, 13, 4, .ref bo), (bo, 2, 1, .int pc), (bo, 2, 0, .ref pa), (r0, 13, 3, .ref ou), (r0, 13, 2, .ref js), (js, 6, 7, .int pv), (js, 6, 8, .int pu), (js, 6, 0, .ref wk), (js, 6, 1, .ref wi), (js, 6, 2, .ref wz), (js, 6, 4, .ref jkf), (js, 6, 5, .ref jks), (r0, 13, 1, .ref fm), (fm, 4, 1, .int fl), (r0, 13, 7, .ref op), (op, 1, 2, .int sz)]) [0, 1, 2, 3, 4, 5, 6, 7, 8, 9, 10, 11, 12, 13, 14, 15, 16, 17, 18, 19, 20, 21, 22, 23, 24, 25, 26] rfl (M1 := [(yb_102, 171, 40, ca 1, gb_116), (ye_102, 172, 40, ca 1, ge_116), (wk, 140, 1502, ca 1, fk), (wi, 141, 1502, ca 1, fi), (wz, 142, 1502, ca 1, fz), (jkf, 144, 1502, ca 1, fa), (jks, 145, 1502, ca 1, fs)]) [0, 1, 2, 3, 4, 5, 6] rfl (I1 := [(jFl, jLs dC dI ca G_71 3 none), (jFy, jYb dC dI G_71), ([(2, 0), (2, 1)], jOl (dC, dI) G0 2 [bo, ou] s.heap)]) [1, 2, 3] rfl
                      clear hh_116
                      have hh_120 := hh_119.addI (jDcc.ie hF_118)
                      clear hh_119
                      refine lv_aload_n hx hb dX11_openDocument_230 rfl (lv_at hl 6 rfl) ?_
                      refine j7_read hx hb hown hK (C := RX11) (T := TX11) (N := 19) rfl hly_13_7 hlk_61 (hh_120.at 25 rfl) dX11_openDocument_231 ?_
                      refine lv_aload hx hb dX11_openDocument_234 (lv_at hl 0 rfl) ?_
                      try clear hsz_116 htt_116 hrc_116 hrs_116
                      have hsz_121 := hh_120.2.2.2.2.2.1
                      have htt_121 := hh_120.2.2.2.2.2.2.1
                      refine W.room (fun hrc_121 hrs_121 => ?_)
                      refine va_callFi (A0 := jA base) (H0 := s.heap) (va_runF (hK.1 1 _ rfl).2 (As := [.ref H_46.size]) (rest := []) ⟨hx, hb, hml, hown, hts⟩ (uJx4a65c_add_9ea2dL1 l dC dI ca base B hB hAp hB1 hB3 hB221 G_71 H_116 op H_46.size sz LC LS) (va_cwF 1 hts (jgF (jWr_33 _ (List.mem_of_getElem? (i := 7) rfl)) (jWr_33 _ (List.mem_of_getElem? (i := 8) rfl)) (jWr_33 _ (List.mem_of_getElem? (i := 9) rfl)) (jWr_2 _ (List.mem_of_getElem? (i := 13) rfl)) (jWr_33 _ (List.mem_of_getElem? (i := 10) rfl))) rfl rfl rfl hK7.2.2.2.2.2.1.2.2.1 ⟨by decide, by decide, by decide +kernel⟩ ⟨by rw [← hR]; exact Nat.le_of_ble_eq_true rfl, by rw [← hR]; exact Nat.le_of_ble_eq_true rfl⟩) ⟨fun a U g mk q => by obtain ⟨q0, q1, q2, qK, q10, q11, q12, q13, q14, q15⟩ := q; exact ⟨q0, q1, q2, jG.calling g mk a qK, (jK7.calling g mk a q10), q11, q12, q13, q14, q15⟩, hh_120.recv (C := RJx4a65c) (T := TJx4a65c) (N := 3) hB1 rfl (by decide) hg_85 hK, fun U hU hW => ⟨rfl, hU, hh_120.2.1, hG.step hW hU hh_120.1, (hK7.step hW hU hh_120.1), hg_85, hg_73, (hh_120.2.2.1.sub (L1 := [(op, 1, 2, .int sz)]) [26] rfl), (hh_120.2.2.2.2.2.2.2.2.sub (L1 := [(jFl, jLs dC dI ca G_71 3 none)]) [1] rfl), ⟨(by first | (with_reducible assumption) | omega | rfl | fail), (by first | (with_reducible assumption) | omega | rfl | fail)⟩⟩⟩ rfl rfl hl.1 rfl (lv_room (Nat.le_of_ble_eq_true rfl)) dX11_openDocument_236 ⟨by rw [hRc]; omega, by rw [hRs]; omega⟩) hh_120.1 (fun q _ h => h) (fun q h => h) (fun r_122 u_121 t_121 H_121 locs_121 ht_121 hvm_121 hr_122 hb_121 hz_121 hk_121 hS_121 => ?_)
                      obtain ⟨qz_121, G_121⟩ := u_121
                      rw [ht_121] at hb_121
                      simp only at hb_121
                      obtain ⟨⟨hb_1211, hb_1212, hb_1213, hb_1214, hb_1215, hb_1216⟩, hN_121, hbE_121⟩ := hb_121
                      have hE9_121 := hN_121
                      have hN_121 : (jNk [0, 1, 2, 4, 5, 6, 7, 8, 9, 10, 11, 12, 13, 14, 15, 16]) G_71 G_121 := hN_121.sub (by decide)
                      have hh_121 : jSt (dC, dI) B base G0 G_121 EX11_openDocument s.heap ((((0 + 1) + (7)) + (1)) + (1)) ((((0 + 17) + (1700)) + (m_ret_71)) + (40)) [(op, 1, 2, .int qz_121), (H_46.size, 3, 4, .int qs_116), (kernel_112, 7, 1, .ref syntax_115), (r0, 13, 5, .ref kernel_112), (H_46.size, 3, 11, .null), (H_46.size, 3, 10, .int qk_50), (H_46.size, 3, 5, .ref yb_102), (H_46.size, 3, 6, .ref ye_102), (H_46.size, 3, 3, .int ql_100), (H_46.size, 3, 1, .int r_98), (H_46.size, 3, 0, .ref ret_95), (H_46.size, 3, 10, .int qk_50), (r0, 13, 4, .ref bo), (bo, 2, 1, .int pc), (bo, 2, 0, .ref pa), (r0, 13, 3, .ref ou), (r0, 13, 2, .ref js), (js, 6, 7, .int pv), (js, 6, 8, .int pu), (js, 6, 0, .ref wk), (js, 6, 1, .ref wi), (js, 6, 2, .ref wz), (js, 6, 4, .ref jkf), (js, 6, 5, .ref jks), (r0, 13, 1, .ref fm), (fm, 4, 1, .int fl), (r0, 13, 7, .ref op)] [(yb_102, 171, 40, ca 1, gb_116), (ye_102, 172, 40, ca 1, ge_116), (wk, 140, 1502, ca 1, fk), (wi, 141, 1502, ca 1, fi), (wz, 142, 1502, ca 1, fz), (jkf, 144, 1502, ca 1, fa), (jks, 145, 1502, ca 1, fs)] [(jFdo, jDcc dC dI ca G_71 none phn_118), (jFy, jYb dC dI G_71), ([(2, 0), (2, 1)], jOl (dC, dI) G0 2 [bo, ou] s.heap)] H_121 locs_121 := (hh_120.callG hb_1211 hb_1212 hb_1213 hb_1214 hb_1215 hS_121 rfl (L1 := [(H_46.size, 3, 4, .int qs_116), (kernel_112, 7, 1, .ref syntax_115), (r0, 13, 5, .ref kernel_112), (H_46.size, 3, 11, .null), (H_46.size, 3, 10, .int qk_50), (H_46.size, 3, 5, .ref yb_102), (H_46.size, 3, 6, .ref ye_102), (H_46.size, 3, 3, .int ql_100), (H_46.size, 3, 1, .int r_98), (H_46.size, 3, 0, .ref ret_95), (H_46.size, 3, 10, .int qk_50), (r0, 13, 4, .ref bo), (bo, 2, 1, .int pc), (bo, 2, 0, .ref pa), (r0, 13, 3, .ref ou), (r0, 13, 2, .ref js), (js, 6, 7, .int pv), (js, 6, 8, .int pu), (js, 6, 0, .ref wk), (js, 6, 1, .ref wi), (js, 6, 2, .ref wz), (js, 6, 4, .ref jkf), (js, 6, 5, .ref jks), (r0, 13, 1, .ref fm), (fm, 4, 1, .int fl), (r0, 13, 7, .ref op)]) [0, 1, 2, 3, 4, 5, 6, 7, 8, 9, 10, 11, 12, 13, 14, 15, 16, 17, 18, 19, 20, 21, 22, 23, 24, 25] rfl rfl (M1 := [(yb_102, 171, 40, ca 1, gb_116), (ye_102, 172, 40, ca 1, ge_116), (wk, 140, 1502, ca 1, fk), (wi, 141, 1502, ca 1, fi), (wz, 142, 1502, ca 1, fz), (jkf, 144, 1502, ca 1, fa), (jks, 145, 1502, ca 1, fs)]) [0, 1, 2, 3, 4, 5, 6] rfl rfl (I1 := [(jFdo, jDcc dC dI ca G_71 none phn_118), (jFy, jYb dC dI G_71), ([(2, 0), (2, 1)], jOl (dC, dI) G0 2 [bo, ou] s.heap)]) [0, 2, 3] rfl rfl).more hb_1216
                      have hNn_121 : (jNk [0, 1, 2, 4, 5, 6, 7, 8, 9, 10, 11, 12, 13, 14, 15, 16]) G0 G_121 := (hNn_71).tr hN_121
                      have hg_123 := hb_1212 _ _ hg_73
                      have hg_124 := hb_1212 _ _ hg_74
                      have hg_125 := hb_1212 _ _ hg_syntax_115
                      have hg_126 := hb_1212 _ _ hg_kernel_112
                      have hg_127 := hb_1212 _ _ hgb_102
                      have hg_128 := hb_1212 _ _ hge_102
                      have hg_129 := hb_1212 _ _ hg_ret_95
                      have hg_130 := hb_1212 _ _ hg_75
                      have hg_131 := hb_1212 _ _ hg_76
                      have hg_132 := hb_1212 _ _ hg_77
                      have hg_133 := hb_1212 _ _ hg_78
                      have hg_134 := hb_1212 _ _ hg_79
                      have hg_135 := hb_1212 _ _ hg_80
                      have hg_136 := hb_1212 _ _ hg_81
                      have hg_137 := hb_1212 _ _ hg_82
                      have hg_138 := hb_1212 _ _ hg_83
                      have hg_139 := hb_1212 _ _ hg_84
                      have hg_140 := hb_1212 _ _ hg_85
                      have hd_141 := jDcc.grow (hh_121.iv 0 rfl) hb_1212 hE9_121 (by decide)
                      have hh_142 := hh_121.sub (L1 := [(op, 1, 2, .int qz_121), (H_46.size, 3, 4, .int qs_116), (kernel_112, 7, 1, .ref syntax_115), (r0, 13, 5, .ref kernel_112), (H_46.size, 3, 11, .null), (H_46.size, 3, 10, .int qk_50), (H_46.size, 3, 5, .ref yb_102), (H_46.size, 3, 6, .ref ye_102), (H_46.size, 3, 3, .int ql_100), (H_46.size, 3, 1, .int r_98), (H_46.size, 3, 0, .ref ret_95), (H_46.size, 3, 10, .int qk_50), (r0, 13, 4, .ref bo), (bo, 2, 1, .int pc), (bo, 2, 0, .ref pa), (r0, 13, 3, .ref ou), (r0, 13, 2, .ref js), (js, 6, 7, .int pv), (js, 6, 8, .int pu), (js, 6, 0, .ref wk), (js, 6, 1, .ref wi), (js, 6, 2, .ref wz), (js, 6, 4, .ref jkf), (js, 6, 5, .ref jks), (r0, 13, 1, .ref fm), (fm, 4, 1, .int fl), (r0, 13, 7, .ref op)]) [0, 1, 2, 3, 4, 5, 6, 7, 8, 9, 10, 11, 12, 13, 14, 15, 16, 17, 18, 19, 20, 21, 22, 23, 24, 25, 26] rfl (M1 := [(yb_102, 171, 40, ca 1, gb_116), (ye_102, 172, 40, ca 1, ge_116), (wk, 140, 1502, ca 1, fk), (wi, 141, 1502, ca 1, fi), (wz, 142, 1502, ca 1, fz), (jkf, 144, 1502, ca 1, fa), (jks, 145, 1502, ca 1, fs)]) [0, 1, 2, 3, 4, 5, 6] rfl (I1 := [(jFy, jYb dC dI G_71), ([(2, 0), (2, 1)], jOl (dC, dI) G0 2 [bo, ou] s.heap)]) [1, 2] rfl
                      clear hh_121
                      have hh_143 := hh_142.addI (jDcc.ie hd_141)
                      clear hh_142
                      have hd_144 := jYb.grow (hh_143.iv 1 rfl) hb_1212 hN_121 (by decide)
                      have hh_145 := hh_143.sub (L1 := [(op, 1, 2, .int qz_121), (H_46.size, 3, 4, .int qs_116), (kernel_112, 7, 1, .ref syntax_115), (r0, 13, 5, .ref kernel_112), (H_46.size, 3, 11, .null), (H_46.size, 3, 10, .int qk_50), (H_46.size, 3, 5, .ref yb_102), (H_46.size, 3, 6, .ref ye_102), (H_46.size, 3, 3, .int ql_100), (H_46.size, 3, 1, .int r_98), (H_46.size, 3, 0, .ref ret_95), (H_46.size, 3, 10, .int qk_50), (r0, 13, 4, .ref bo), (bo, 2, 1, .int pc), (bo, 2, 0, .ref pa), (r0, 13, 3, .ref ou), (r0, 13, 2, .ref js), (js, 6, 7, .int pv), (js, 6, 8, .int pu), (js, 6, 0, .ref wk), (js, 6, 1, .ref wi), (js, 6, 2, .ref wz), (js, 6, 4, .ref jkf), (js, 6, 5, .ref jks), (r0, 13, 1, .ref fm), (fm, 4, 1, .int fl), (r0, 13, 7, .ref op)]) [0, 1, 2, 3, 4, 5, 6, 7, 8, 9, 10, 11, 12, 13, 14, 15, 16, 17, 18, 19, 20, 21, 22, 23, 24, 25, 26] rfl (M1 := [(yb_102, 171, 40, ca 1, gb_116), (ye_102, 172, 40, ca 1, ge_116), (wk, 140, 1502, ca 1, fk), (wi, 141, 1502, ca 1, fi), (wz, 142, 1502, ca 1, fz), (jkf, 144, 1502, ca 1, fa), (jks, 145, 1502, ca 1, fs)]) [0, 1, 2, 3, 4, 5, 6] rfl (I1 := [(jFdo, jDcc dC dI ca G_121 none phn_118), ([(2, 0), (2, 1)], jOl (dC, dI) G0 2 [bo, ou] s.heap)]) [0, 2] rfl
                      clear hh_143
                      have hh_146 := hh_145.addI (jYb.ie hd_144)
                      clear hh_145
                      have hh_147 := hh_146.addIs hbE_121
                      obtain ⟨hr_122b, hr_122p⟩ := hr_122
                      try simp only at hr_122p
                      have hr_122' := jb_01 hr_122b
                      refine lv_pop hx hb dX11_openDocument_241 rfl ?_
                      refine lv_aload hx hb dX11_openDocument_242 (lv_at hl 0 rfl) ?_
                      refine j7_read hx hb hown hK (C := RX1) (T := TX1) (N := 17) rfl hly_3_10 hlk_171 (hh_147.at 5 rfl) dX11_openDocument_244 ?_
                      refine lv_aload hx hb dX11_openDocument_247 (lv_at hl 0 rfl) ?_
                      refine j7_read hx hb hown hK (C := RX1) (T := TX1) (N := 17) rfl hly_3_4 hlk_168 (hh_147.at 1 rfl) dX11_openDocument_249 ?_
                      refine lv_icmp_ne (tgt := 262) hx hb dX11_openDocument_252 (by decide) (fun c_148 => ?_) (fun c_148 => ?_)
                      · skip
                        have c_148' : qk_50.toInt ≠ qs_116.toInt := jb_ne (rfl) (rfl) c_148
                        try clear hsz_121 htt_121 hrc_121 hrs_121
                        have hsz_149 := hh_147.2.2.2.2.2.1
                        have htt_149 := hh_147.2.2.2.2.2.2.1
                        refine W.room (fun hrc_149 hrs_149 => ?_)
                        refine W.widen (k := LC - s.heap.size) (n := LS - jTot s.heap) (by omega) (by omega) ?_
                        rw [hQ]
                        exact W.vret hx hb hr (fun t ht hW => ⟨⟨(pc, pa, n_pa, phn_118, G_121), rfl, by (try dsimp only); exact ⟨(by first | (with_reducible assumption) | omega | rfl | fail), (by first | (with_reducible assumption) | omega | rfl | fail), (by first | (with_reducible assumption) | omega | rfl | fail), (by first | (with_reducible assumption) | omega | rfl | fail), (by first | assumption | fail | omega), (by first | (with_reducible assumption) | omega | rfl | fail)⟩, ⟨hh_147.ra (by first | (simp only; omega) | omega) (by first | (simp only; omega) | omega) (M1 := [(bo, 2, 1, .int pc), (bo, 2, 0, .ref pa)]) [13, 14] rfl ht, hg_131, hNn_121, by rw [ht]; exact hh_147.iv 3 rfl, by rw [ht]; exact hh_147.2.2.2.2.2.2.2.2.sub (L1 := [(jFy, jYb dC dI G_121), (jFl, jLs dC dI ca G_121 3 none), (jFdo, jDcc dC dI ca G_121 none phn_118)]) [1, 0, 2] rfl⟩⟩, by rw [ht]; try exact hh_147.1.1, fun q h9 hq => by rw [ht]; try exact hh_147.1.2.1 q h9 hq⟩) hh_147.1.2.2 dX11_openDocument_262
                      · skip
                        have c_148' : qk_50.toInt = qs_116.toInt := jb_ne_n (rfl) (rfl) c_148
                        refine lv_aload_n hx hb dX11_openDocument_255 rfl (lv_at hl 6 rfl) ?_
                        refine lv_aload hx hb dX11_openDocument_256 (lv_at hl 0 rfl) ?_
                        refine lv_iconst (v := 1) hx hb dX11_openDocument_258 (by decide) ?_
                        try clear hsz_121 htt_121 hrc_121 hrs_121
                        have hsz_150 := hh_147.2.2.2.2.2.1
                        have htt_150 := hh_147.2.2.2.2.2.2.1
                        refine W.room (fun hrc_150 hrs_150 => ?_)
                        refine va_callv (A0 := jA base) (H0 := s.heap) (va_runV (As := [.ref H_46.size, .int 1]) (rest := []) ⟨hx, hb, hml, hown, hts⟩ (uX11_publish l dC dI ca base B hB hAp hB2 hB3 hB4 hB11 hB13 hB101 hB171 hB172 hB196 hB210 G_121 H_121 r0 H_46.size 1 bo pc pa n_pa ou LC LS) (cwV 2 hts (jgV (jWr_39 _ (List.mem_of_getElem? (i := 19) rfl)) (jWr_39 _ (List.mem_of_getElem? (i := 20) rfl)) (jWr_39 _ (List.mem_of_getElem? (i := 21) rfl)) (jWr_1 _ (List.mem_of_getElem? (i := 2) rfl)) (jWr_39 _ (List.mem_of_getElem? (i := 22) rfl))) rfl rfl rfl (by decide +kernel) ⟨by rw [← hR]; exact Nat.le_of_ble_eq_true rfl, by rw [← hR]; exact Nat.le_of_ble_eq_true rfl⟩) ⟨fun a U g mk q => by obtain ⟨q0, q1, q2, qK, q10, q11, q12, q13, q14, q15, q16, q17, q18, q19⟩ := q; exact ⟨q0, q1, q2, jG.calling g mk a qK, (va_K.moved (Vm.Alike.refl U.vm) q10), q11, q12, q13, q14, q15, q16, q17, q18, q19⟩, hh_147.recv (C := RX11) (T := TX11) (N := 19) hB13 rfl (by decide) hg_124 hK, fun U hU hW => ⟨rfl, hU, hh_147.2.1, hG.step hW hU hh_147.1, va_K.moved hW.alike hK2, hg_123, hg_124, (Or.inr rfl), hg_130, hg_131, hg_132, (hh_147.2.2.1.sub (L1 := [(r0, 13, 4, .ref bo), (bo, 2, 1, .int pc), (bo, 2, 0, .ref pa), (r0, 13, 3, .ref ou)]) [12, 13, 14, 15] rfl), (hh_147.2.2.2.2.2.2.2.2.sub (L1 := [(jFy, jYb dC dI G_121)]) [1] rfl), (by omega), (by omega), ⟨(by first | (with_reducible assumption) | omega | rfl | fail), (by first | (with_reducible assumption) | omega | rfl | fail), (by first | (with_reducible assumption) | omega | rfl | fail), (by first | (with_reducible assumption) | omega | rfl | fail), (by first | assumption | fail | omega)⟩⟩⟩ rfl rfl hl.1 rfl (lv_room (Nat.le_of_ble_eq_true rfl)) dX11_openDocument_259 ⟨by rw [hRc]; omega, by rw [hRs]; omega⟩) hh_147.1 (fun q _ h => h) (fun q h => h) (fun u_150 t_150 H_150 locs_150 ht_150 hvm_150 hr_151 hb_150 hz_150 hk_150 hS_150 => ?_)
                        obtain ⟨qc_150, qa_150, m_qa_150, G_150⟩ := u_150
                        rw [ht_150] at hb_150
                        simp only at hb_150
                        obtain ⟨⟨hb_1501, hb_1502, hb_1503, hb_1504, hb_1505, hb_1506⟩, hgq_150_0, hN_150, hbO_150, hbE_150⟩ := hb_150
                        have hE9_150 := hN_150
                        have hN_150 : (jNk [0, 1, 2, 4, 5, 6, 7, 8, 9, 10, 11, 12, 13, 14, 15, 16]) G_121 G_150 := hN_150.sub (by decide)
                        have hh_150 : jSt (dC, dI) B base G0 G_150 EX11_openDocument s.heap (((((0 + 1) + (7)) + (1)) + (1)) + ((m_qa_150 - n_pa) / 16)) (((((0 + 17) + (1700)) + (m_ret_71)) + (40)) + (2 * (m_qa_150 - n_pa))) [(bo, 2, 1, .int qc_150), (bo, 2, 0, .ref qa_150), (op, 1, 2, .int qz_121), (H_46.size, 3, 4, .int qs_116), (kernel_112, 7, 1, .ref syntax_115), (r0, 13, 5, .ref kernel_112), (H_46.size, 3, 11, .null), (H_46.size, 3, 10, .int qk_50), (H_46.size, 3, 5, .ref yb_102), (H_46.size, 3, 6, .ref ye_102), (H_46.size, 3, 3, .int ql_100), (H_46.size, 3, 1, .int r_98), (H_46.size, 3, 0, .ref ret_95), (H_46.size, 3, 10, .int qk_50), (r0, 13, 4, .ref bo), (r0, 13, 3, .ref ou), (r0, 13, 2, .ref js), (js, 6, 7, .int pv), (js, 6, 8, .int pu), (js, 6, 0, .ref wk), (js, 6, 1, .ref wi), (js, 6, 2, .ref wz), (js, 6, 4, .ref jkf), (js, 6, 5, .ref jks), (r0, 13, 1, .ref fm), (fm, 4, 1, .int fl), (r0, 13, 7, .ref op)] [(yb_102, 171, 40, ca 1, gb_116), (ye_102, 172, 40, ca 1, ge_116), (wk, 140, 1502, ca 1, fk), (wi, 141, 1502, ca 1, fi), (wz, 142, 1502, ca 1, fz), (jkf, 144, 1502, ca 1, fa), (jks, 145, 1502, ca 1, fs)] [(jFl, jLs dC dI ca G_121 3 none), (jFdo, jDcc dC dI ca G_121 none phn_118)] H_150 locs_150 := (hh_147.callG hb_1501 hb_1502 hb_1503 hb_1504 hb_1505 hS_150 rfl (L1 := [(op, 1, 2, .int qz_121), (H_46.size, 3, 4, .int qs_116), (kernel_112, 7, 1, .ref syntax_115), (r0, 13, 5, .ref kernel_112), (H_46.size, 3, 11, .null), (H_46.size, 3, 10, .int qk_50), (H_46.size, 3, 5, .ref yb_102), (H_46.size, 3, 6, .ref ye_102), (H_46.size, 3, 3, .int ql_100), (H_46.size, 3, 1, .int r_98), (H_46.size, 3, 0, .ref ret_95), (H_46.size, 3, 10, .int qk_50), (r0, 13, 4, .ref bo), (r0, 13, 3, .ref ou), (r0, 13, 2, .ref js), (js, 6, 7, .int pv), (js, 6, 8, .int pu), (js, 6, 0, .ref wk), (js, 6, 1, .ref wi), (js, 6, 2, .ref wz), (js, 6, 4, .ref jkf), (js, 6, 5, .ref jks), (r0, 13, 1, .ref fm), (fm, 4, 1, .int fl), (r0, 13, 7, .ref op)]) [0, 1, 2, 3, 4, 5, 6, 7, 8, 9, 10, 11, 12, 15, 16, 17, 18, 19, 20, 21, 22, 23, 24, 25, 26] rfl rfl (M1 := [(yb_102, 171, 40, ca 1, gb_116), (ye_102, 172, 40, ca 1, ge_116), (wk, 140, 1502, ca 1, fk), (wi, 141, 1502, ca 1, fi), (wz, 142, 1502, ca 1, fz), (jkf, 144, 1502, ca 1, fa), (jks, 145, 1502, ca 1, fs)]) [0, 1, 2, 3, 4, 5, 6] rfl rfl (I1 := [(jFl, jLs dC dI ca G_121 3 none), (jFdo, jDcc dC dI ca G_121 none phn_118)]) [0, 2] rfl rfl).more hb_1506
                        have hNn_150 : (jNk [0, 1, 2, 4, 5, 6, 7, 8, 9, 10, 11, 12, 13, 14, 15, 16]) G0 G_150 := (hNn_121).tr hN_150
                        have hg_152 := hb_1502 _ _ hg_123
                        have hg_153 := hb_1502 _ _ hg_124
                        have hg_154 := hb_1502 _ _ hg_125
                        have hg_155 := hb_1502 _ _ hg_126
                        have hg_156 := hb_1502 _ _ hg_127
                        have hg_157 := hb_1502 _ _ hg_128
                        have hg_158 := hb_1502 _ _ hg_129
                        have hg_159 := hb_1502 _ _ hg_130
                        have hg_160 := hb_1502 _ _ hg_132
                        have hg_161 := hb_1502 _ _ hg_133
                        have hg_162 := hb_1502 _ _ hg_134
                        have hg_163 := hb_1502 _ _ hg_135
                        have hg_164 := hb_1502 _ _ hg_136
                        have hg_165 := hb_1502 _ _ hg_137
                        have hg_166 := hb_1502 _ _ hg_138
                        have hg_167 := hb_1502 _ _ hg_139
                        have hg_168 := hb_1502 _ _ hg_140
                        have hd_169 := jLs.grow (hh_150.iv 0 rfl) hb_1502 hN_150 (by decide)
                        have hh_170 := hh_150.sub (L1 := [(bo, 2, 1, .int qc_150), (bo, 2, 0, .ref qa_150), (op, 1, 2, .int qz_121), (H_46.size, 3, 4, .int qs_116), (kernel_112, 7, 1, .ref syntax_115), (r0, 13, 5, .ref kernel_112), (H_46.size, 3, 11, .null), (H_46.size, 3, 10, .int qk_50), (H_46.size, 3, 5, .ref yb_102), (H_46.size, 3, 6, .ref ye_102), (H_46.size, 3, 3, .int ql_100), (H_46.size, 3, 1, .int r_98), (H_46.size, 3, 0, .ref ret_95), (H_46.size, 3, 10, .int qk_50), (r0, 13, 4, .ref bo), (r0, 13, 3, .ref ou), (r0, 13, 2, .ref js), (js, 6, 7, .int pv), (js, 6, 8, .int pu), (js, 6, 0, .ref wk), (js, 6, 1, .ref wi), (js, 6, 2, .ref wz), (js, 6, 4, .ref jkf), (js, 6, 5, .ref jks), (r0, 13, 1, .ref fm), (fm, 4, 1, .int fl), (r0, 13, 7, .ref op)]) [0, 1, 2, 3, 4, 5, 6, 7, 8, 9, 10, 11, 12, 13, 14, 15, 16, 17, 18, 19, 20, 21, 22, 23, 24, 25, 26] rfl (M1 := [(yb_102, 171, 40, ca 1, gb_116), (ye_102, 172, 40, ca 1, ge_116), (wk, 140, 1502, ca 1, fk), (wi, 141, 1502, ca 1, fi), (wz, 142, 1502, ca 1, fz), (jkf, 144, 1502, ca 1, fa), (jks, 145, 1502, ca 1, fs)]) [0, 1, 2, 3, 4, 5, 6] rfl (I1 := [(jFdo, jDcc dC dI ca G_121 none phn_118)]) [1] rfl
                        clear hh_150
                        have hh_171 := hh_170.addI (jLs.ie hd_169)
                        clear hh_170
                        have hd_172 := jDcc.grow (hh_171.iv 1 rfl) hb_1502 hE9_150 (by decide)
                        have hh_173 := hh_171.sub (L1 := [(bo, 2, 1, .int qc_150), (bo, 2, 0, .ref qa_150), (op, 1, 2, .int qz_121), (H_46.size, 3, 4, .int qs_116), (kernel_112, 7, 1, .ref syntax_115), (r0, 13, 5, .ref kernel_112), (H_46.size, 3, 11, .null), (H_46.size, 3, 10, .int qk_50), (H_46.size, 3, 5, .ref yb_102), (H_46.size, 3, 6, .ref ye_102), (H_46.size, 3, 3, .int ql_100), (H_46.size, 3, 1, .int r_98), (H_46.size, 3, 0, .ref ret_95), (H_46.size, 3, 10, .int qk_50), (r0, 13, 4, .ref bo), (r0, 13, 3, .ref ou), (r0, 13, 2, .ref js), (js, 6, 7, .int pv), (js, 6, 8, .int pu), (js, 6, 0, .ref wk), (js, 6, 1, .ref wi), (js, 6, 2, .ref wz), (js, 6, 4, .ref jkf), (js, 6, 5, .ref jks), (r0, 13, 1, .ref fm), (fm, 4, 1, .int fl), (r0, 13, 7, .ref op)]) [0, 1, 2, 3, 4, 5, 6, 7, 8, 9, 10, 11, 12, 13, 14, 15, 16, 17, 18, 19, 20, 21, 22, 23, 24, 25, 26] rfl (M1 := [(yb_102, 171, 40, ca 1, gb_116), (ye_102, 172, 40, ca 1, ge_116), (wk, 140, 1502, ca 1, fk), (wi, 141, 1502, ca 1, fi), (wz, 142, 1502, ca 1, fz), (jkf, 144, 1502, ca 1, fa), (jks, 145, 1502, ca 1, fs)]) [0, 1, 2, 3, 4, 5, 6] rfl (I1 := [(jFl, jLs dC dI ca G_150 3 none)]) [0] rfl
                        clear hh_171
                        have hh_174 := hh_173.addI (jDcc.ie hd_172)
                        clear hh_173
                        have hh_175 := hh_174.addIs hbE_150
                        have hd_176 := jOl.trL (hh_147.iv 3 rfl) hh_147.2.2.2.2.1 hbO_150 (by simp)
                        have hh_177 := hh_175.addI (jOl.ie (dC := dC) (dI := dI) (G0 := G0) (k := 2) (rs := [bo, ou]) (H0 := s.heap) (F := [(2, 0), (2, 1)]) (C := RX0) (T := TX0) (N := 2) rfl (by decide) hh_175.2.2.2.2.1 (hd_176))
                        clear hh_175
                        try simp only at hr_151
                        obtain ⟨hr_151_0, hr_151_1, hr_151_2, hr_151_3, hr_151_4⟩ := hr_151
                        try clear hsz_150 htt_150 hrc_150 hrs_150
                        have hsz_178 := hh_177.2.2.2.2.2.1
                        have htt_178 := hh_177.2.2.2.2.2.2.1
                        refine W.room (fun hrc_178 hrs_178 => ?_)
                        refine W.widen (k := LC - s.heap.size) (n := LS - jTot s.heap) (by omega) (by omega) ?_
                        rw [hQ]
                        exact W.vret hx hb hr (fun t ht hW => ⟨⟨(qc_150, qa_150, m_qa_150, phn_118, G_150), rfl, by (try dsimp only); exact ⟨(by first | (with_reducible assumption) | omega | rfl | fail), (by first | (with_reducible assumption) | omega | rfl | fail), (by first | (with_reducible assumption) | omega | rfl | fail), (by first | (with_reducible assumption) | omega | rfl | fail), (by first | assumption | fail | omega), (by first | (with_reducible assumption) | omega | rfl | fail)⟩, ⟨hh_177.ra (by first | (simp only; omega) | omega) (by first | (simp only; omega) | omega) (M1 := [(bo, 2, 1, .int qc_150), (bo, 2, 0, .ref qa_150)]) [0, 1] rfl ht, hgq_150_0, hNn_150, by rw [ht]; exact hh_177.iv 0 rfl, by rw [ht]; exact hh_177.2.2.2.2.2.2.2.2.sub (L1 := [(jFy, jYb dC dI G_150), (jFl, jLs dC dI ca G_150 3 none), (jFdo, jDcc dC dI ca G_150 none phn_118)]) [1, 3, 2] rfl⟩⟩, by rw [ht]; try exact hh_177.1.1, fun q h9 hq => by rw [ht]; try exact hh_177.1.2.1 q h9 hq⟩) hh_177.1.2.2 dX11_openDocument_262
                    · have hpo_102 := jPo.rf (hpq_102 rfl); exact absurd hpo_102.1 (by omega)
                  · skip
                    have c_48' : r_47.toInt ≥ 3 := jb_lt_n (rfl) ((by decide)) c_48
                    try clear hsz_46 htt_46 hrc_46 hrs_46
                    have hsz_179 := hh_46.2.2.2.2.2.1
                    have htt_179 := hh_46.2.2.2.2.2.2.1
                    refine W.room (fun hrc_179 hrs_179 => ?_)
                    refine W.widen (k := LC - s.heap.size) (n := LS - jTot s.heap) (by omega) (by omega) ?_
                    rw [hQ]
                    exact W.vret hx hb hr (fun t ht hW => ⟨⟨(pc, pa, n_pa, ph, G0), rfl, by (try dsimp only); exact ⟨(by first | (with_reducible assumption) | omega | rfl | fail), (by first | (with_reducible assumption) | omega | rfl | fail), (by first | (with_reducible assumption) | omega | rfl | fail), (by first | (with_reducible assumption) | omega | rfl | fail), (by first | assumption | fail | omega), (by first | (with_reducible assumption) | omega | rfl | fail)⟩, ⟨hh_46.ra (by first | (simp only; omega) | omega) (by first | (simp only; omega) | omega) (M1 := [(bo, 2, 1, .int pc), (bo, 2, 0, .ref pa)]) [1, 2] rfl ht, hg_pa, jNk.rf, by rw [ht]; exact hh_46.iv 1 rfl, by rw [ht]; exact hh_46.2.2.2.2.2.2.2.2.sub (L1 := [(jFy, jYb dC dI G0), (jFl, jLs dC dI ca G0 3 none), (jFdo, jDcc dC dI ca G0 none ph)]) [2, 0, 3] rfl⟩⟩, by rw [ht]; try exact hh_46.1.1, fun q h9 hq => by rw [ht]; try exact hh_46.1.2.1 q h9 hq⟩) hh_46.1.2.2 dX11_openDocument_168
                · skip
                  refine lv_ifnonnull (tgt := 168) hx hb dX11_openDocument_152 (by decide) ?_
                  try clear hsz_43 htt_43 hrc_43 hrs_43
                  have hsz_180 := hh_43.2.2.2.2.2.1
                  have htt_180 := hh_43.2.2.2.2.2.2.1
                  refine W.room (fun hrc_180 hrs_180 => ?_)
                  refine W.widen (k := LC - s.heap.size) (n := LS - jTot s.heap) (by omega) (by omega) ?_
                  rw [hQ]
                  exact W.vret hx hb hr (fun t ht hW => ⟨⟨(pc, pa, n_pa, ph, G0), rfl, by (try dsimp only); exact ⟨(by first | (with_reducible assumption) | omega | rfl | fail), (by first | (with_reducible assumption) | omega | rfl | fail), (by first | (with_reducible assumption) | omega | rfl | fail), (by first | (with_reducible assumption) | omega | rfl | fail), (by first | assumption | fail | omega), (by first | (with_reducible assumption) | omega | rfl | fail)⟩, ⟨hh_43.ra (by first | (simp only; omega) | omega) (by first | (simp only; omega) | omega) (M1 := [(bo, 2, 1, .int pc), (bo, 2, 0, .ref pa)]) [1, 2] rfl ht, hg_pa, jNk.rf, by rw [ht]; exact hh_43.iv 1 rfl, by rw [ht]; exact hh_43.2.2.2.2.2.2.2.2.sub (L1 := [(jFy, jYb dC dI G0), (jFl, jLs dC dI ca G0 3 none), (jFdo, jDcc dC dI ca G0 none ph)]) [2, 0, 3] rfl⟩⟩, by rw [ht]; try exact hh_43.1.1, fun q h9 hq => by rw [ht]; try exact hh_43.1.2.1 q h9 hq⟩) hh_43.1.2.2 dX11_openDocument_168
end
