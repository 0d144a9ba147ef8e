theorem dX14_open_0 : decode cX14_open 0 = .ok (.aload_n 0, 1) := by decide +kernel
theorem dX14_open_1 : decode cX14_open 1 = .ok (.iload_n 1, 1) := by decide +kernel
theorem dX14_open_2 : decode cX14_open 2 = .ok (.ldc_w 514, 3) := by decide +kernel
theorem dX14_open_5 : decode cX14_open 5 = .ok (.invokevirtual 430, 3) := by decide +kernel
theorem dX14_open_8 : decode cX14_open 8 = .ok (.istore_n 2, 1) := by decide +kernel
theorem dX14_open_9 : decode cX14_open 9 = .ok (.aload_n 0, 1) := by decide +kernel
theorem dX14_open_10 : decode cX14_open 10 = .ok (.iload_n 2, 1) := by decide +kernel
theorem dX14_open_11 : decode cX14_open 11 = .ok (.ldc_w 516, 3) := by decide +kernel
theorem dX14_open_14 : decode cX14_open 14 = .ok (.invokevirtual 430, 3) := by decide +kernel
theorem dX14_open_17 : decode cX14_open 17 = .ok (.istore_n 3, 1) := by decide +kernel
theorem dX14_open_18 : decode cX14_open 18 = .ok (.aload_n 0, 1) := by decide +kernel
theorem dX14_open_19 : decode cX14_open 19 = .ok (.iload_n 2, 1) := by decide +kernel
theorem dX14_open_20 : decode cX14_open 20 = .ok (.ldc_w 517, 3) := by decide +kernel
theorem dX14_open_23 : decode cX14_open 23 = .ok (.invokevirtual 430, 3) := by decide +kernel
theorem dX14_open_26 : decode cX14_open 26 = .ok (.istore 4, 2) := by decide +kernel
theorem dX14_open_28 : decode cX14_open 28 = .ok (.aload_n 0, 1) := by decide +kernel
theorem dX14_open_29 : decode cX14_open 29 = .ok (.iload_n 2, 1) := by decide +kernel
theorem dX14_open_30 : decode cX14_open 30 = .ok (.ldc_w 519, 3) := by decide +kernel
theorem dX14_open_33 : decode cX14_open 33 = .ok (.invokevirtual 430, 3) := by decide +kernel
theorem dX14_open_36 : decode cX14_open 36 = .ok (.istore 5, 2) := by decide +kernel
theorem dX14_open_38 : decode cX14_open 38 = .ok (.aload_n 0, 1) := by decide +kernel
theorem dX14_open_39 : decode cX14_open 39 = .ok (.iload_n 3, 1) := by decide +kernel
theorem dX14_open_40 : decode cX14_open 40 = .ok (.invokevirtual 368, 3) := by decide +kernel
theorem dX14_open_43 : decode cX14_open 43 = .ok (.ifCond .eq 68, 3) := by decide +kernel
theorem dX14_open_46 : decode cX14_open 46 = .ok (.aload_n 0, 1) := by decide +kernel
theorem dX14_open_47 : decode cX14_open 47 = .ok (.getfield 55, 3) := by decide +kernel
theorem dX14_open_50 : decode cX14_open 50 = .ok (.iload_n 3, 1) := by decide +kernel
theorem dX14_open_51 : decode cX14_open 51 = .ok (.iaload, 1) := by decide +kernel
theorem dX14_open_52 : decode cX14_open 52 = .ok (.aload_n 0, 1) := by decide +kernel
theorem dX14_open_53 : decode cX14_open 53 = .ok (.getfield 52, 3) := by decide +kernel
theorem dX14_open_56 : decode cX14_open 56 = .ok (.iload_n 3, 1) := by decide +kernel
theorem dX14_open_57 : decode cX14_open 57 = .ok (.iaload, 1) := by decide +kernel
theorem dX14_open_58 : decode cX14_open 58 = .ok (.isub, 1) := by decide +kernel
theorem dX14_open_59 : decode cX14_open 59 = .ok (.iconst 1, 1) := by decide +kernel
theorem dX14_open_60 : decode cX14_open 60 = .ok (.bipush 40, 2) := by decide +kernel
theorem dX14_open_62 : decode cX14_open 62 = .ok (.invokestatic 181, 3) := by decide +kernel
theorem dX14_open_65 : decode cX14_open 65 = .ok (.ifCond .eq 46, 3) := by decide +kernel
theorem dX14_open_68 : decode cX14_open 68 = .ok (.aload_n 0, 1) := by decide +kernel
theorem dX14_open_69 : decode cX14_open 69 = .ok (.iload 4, 2) := by decide +kernel
theorem dX14_open_71 : decode cX14_open 71 = .ok (.invokevirtual 371, 3) := by decide +kernel
theorem dX14_open_74 : decode cX14_open 74 = .ok (.ifCond .eq 37, 3) := by decide +kernel
theorem dX14_open_77 : decode cX14_open 77 = .ok (.aload_n 0, 1) := by decide +kernel
theorem dX14_open_78 : decode cX14_open 78 = .ok (.iload 5, 2) := by decide +kernel
theorem dX14_open_80 : decode cX14_open 80 = .ok (.invokevirtual 368, 3) := by decide +kernel
theorem dX14_open_83 : decode cX14_open 83 = .ok (.ifCond .eq 28, 3) := by decide +kernel
theorem dX14_open_86 : decode cX14_open 86 = .ok (.aload_n 0, 1) := by decide +kernel
theorem dX14_open_87 : decode cX14_open 87 = .ok (.getfield 55, 3) := by decide +kernel
theorem dX14_open_90 : decode cX14_open 90 = .ok (.iload 5, 2) := by decide +kernel
theorem dX14_open_92 : decode cX14_open 92 = .ok (.iaload, 1) := by decide +kernel
theorem dX14_open_93 : decode cX14_open 93 = .ok (.aload_n 0, 1) := by decide +kernel
theorem dX14_open_94 : decode cX14_open 94 = .ok (.getfield 52, 3) := by decide +kernel
theorem dX14_open_97 : decode cX14_open 97 = .ok (.iload 5, 2) := by decide +kernel
theorem dX14_open_99 : decode cX14_open 99 = .ok (.iaload, 1) := by decide +kernel
theorem dX14_open_100 : decode cX14_open 100 = .ok (.isub, 1) := by decide +kernel
theorem dX14_open_101 : decode cX14_open 101 = .ok (.sipush 1500, 3) := by decide +kernel
theorem dX14_open_104 : decode cX14_open 104 = .ok (.if_icmp .gt 7, 3) := by decide +kernel
theorem dX14_open_107 : decode cX14_open 107 = .ok (.iconst 1, 1) := by decide +kernel
theorem dX14_open_108 : decode cX14_open 108 = .ok (.goto 4, 3) := by decide +kernel
theorem dX14_open_111 : decode cX14_open 111 = .ok (.iconst 0, 1) := by decide +kernel
theorem dX14_open_112 : decode cX14_open 112 = .ok (.istore 6, 2) := by decide +kernel
theorem dX14_open_114 : decode cX14_open 114 = .ok (.iload 6, 2) := by decide +kernel
theorem dX14_open_116 : decode cX14_open 116 = .ok (.ifCond .eq 19, 3) := by decide +kernel
theorem dX14_open_119 : decode cX14_open 119 = .ok (.aload_n 0, 1) := by decide +kernel
theorem dX14_open_120 : decode cX14_open 120 = .ok (.iload_n 3, 1) := by decide +kernel
theorem dX14_open_121 : decode cX14_open 121 = .ok (.invokevirtual 520, 3) := by decide +kernel
theorem dX14_open_124 : decode cX14_open 124 = .ok (.ifnonnull 11, 3) := by decide +kernel
theorem dX14_open_127 : decode cX14_open 127 = .ok (.aload_n 0, 1) := by decide +kernel
theorem dX14_open_128 : decode cX14_open 128 = .ok (.getfield 505, 3) := by decide +kernel
theorem dX14_open_131 : decode cX14_open 131 = .ok (.iconst 3, 1) := by decide +kernel
theorem dX14_open_132 : decode cX14_open 132 = .ok (.if_icmp .ne 4, 3) := by decide +kernel
theorem dX14_open_135 : decode cX14_open 135 = .ok (.return_, 1) := by decide +kernel
theorem dX14_open_136 : decode cX14_open 136 = .ok (.aload_n 0, 1) := by decide +kernel
theorem dX14_open_137 : decode cX14_open 137 = .ok (.getfield 74, 3) := by decide +kernel
theorem dX14_open_140 : decode cX14_open 140 = .ok (.aload_n 0, 1) := by decide +kernel
theorem dX14_open_141 : decode cX14_open 141 = .ok (.getfield 505, 3) := by decide +kernel
theorem dX14_open_144 : decode cX14_open 144 = .ok (.aaload, 1) := by decide +kernel
theorem dX14_open_145 : decode cX14_open 145 = .ok (.astore 7, 2) := by decide +kernel
theorem dX14_open_147 : decode cX14_open 147 = .ok (.aload_n 0, 1) := by decide +kernel
theorem dX14_open_148 : decode cX14_open 148 = .ok (.dup, 1) := by decide +kernel
theorem dX14_open_149 : decode cX14_open 149 = .ok (.getfield 505, 3) := by decide +kernel
theorem dX14_open_152 : decode cX14_open 152 = .ok (.iconst 1, 1) := by decide +kernel
theorem dX14_open_153 : decode cX14_open 153 = .ok (.iadd, 1) := by decide +kernel
theorem dX14_open_154 : decode cX14_open 154 = .ok (.putfield 505, 3) := by decide +kernel
theorem dX14_open_157 : decode cX14_open 157 = .ok (.aload 7, 2) := by decide +kernel
theorem dX14_open_159 : decode cX14_open 159 = .ok (.aload_n 0, 1) := by decide +kernel
theorem dX14_open_160 : decode cX14_open 160 = .ok (.getfield 55, 3) := by decide +kernel
theorem dX14_open_163 : decode cX14_open 163 = .ok (.iload_n 3, 1) := by decide +kernel
theorem dX14_open_164 : decode cX14_open 164 = .ok (.iaload, 1) := by decide +kernel
theorem dX14_open_165 : decode cX14_open 165 = .ok (.aload_n 0, 1) := by decide +kernel
theorem dX14_open_166 : decode cX14_open 166 = .ok (.getfield 52, 3) := by decide +kernel
theorem dX14_open_169 : decode cX14_open 169 = .ok (.iload_n 3, 1) := by decide +kernel
theorem dX14_open_170 : decode cX14_open 170 = .ok (.iaload, 1) := by decide +kernel
theorem dX14_open_171 : decode cX14_open 171 = .ok (.isub, 1) := by decide +kernel
theorem dX14_open_172 : decode cX14_open 172 = .ok (.putfield 508, 3) := by decide +kernel
theorem dX14_open_175 : decode cX14_open 175 = .ok (.iconst 0, 1) := by decide +kernel
theorem dX14_open_176 : decode cX14_open 176 = .ok (.istore 8, 2) := by decide +kernel
theorem dX14_open_178 : decode cX14_open 178 = .ok (.iload 8, 2) := by decide +kernel
theorem dX14_open_180 : decode cX14_open 180 = .ok (.aload 7, 2) := by decide +kernel
theorem dX14_open_182 : decode cX14_open 182 = .ok (.getfield 508, 3) := by decide +kernel
theorem dX14_open_185 : decode cX14_open 185 = .ok (.if_icmp .ge 31, 3) := by decide +kernel
theorem dX14_open_188 : decode cX14_open 188 = .ok (.aload 7, 2) := by decide +kernel
theorem dX14_open_190 : decode cX14_open 190 = .ok (.getfield 511, 3) := by decide +kernel
theorem dX14_open_193 : decode cX14_open 193 = .ok (.iload 8, 2) := by decide +kernel
theorem dX14_open_195 : decode cX14_open 195 = .ok (.aload_n 0, 1) := by decide +kernel
theorem dX14_open_196 : decode cX14_open 196 = .ok (.getfield 65, 3) := by decide +kernel
theorem dX14_open_199 : decode cX14_open 199 = .ok (.aload_n 0, 1) := by decide +kernel
theorem dX14_open_200 : decode cX14_open 200 = .ok (.getfield 52, 3) := by decide +kernel
theorem dX14_open_203 : decode cX14_open 203 = .ok (.iload_n 3, 1) := by decide +kernel
theorem dX14_open_204 : decode cX14_open 204 = .ok (.iaload, 1) := by decide +kernel
theorem dX14_open_205 : decode cX14_open 205 = .ok (.iload 8, 2) := by decide +kernel
theorem dX14_open_207 : decode cX14_open 207 = .ok (.iadd, 1) := by decide +kernel
theorem dX14_open_208 : decode cX14_open 208 = .ok (.iaload, 1) := by decide +kernel
theorem dX14_open_209 : decode cX14_open 209 = .ok (.iastore, 1) := by decide +kernel
theorem dX14_open_210 : decode cX14_open 210 = .ok (.iinc 8 1, 3) := by decide +kernel
theorem dX14_open_213 : decode cX14_open 213 = .ok (.goto (-35), 3) := by decide +kernel
theorem dX14_open_216 : decode cX14_open 216 = .ok (.aload 7, 2) := by decide +kernel
theorem dX14_open_218 : decode cX14_open 218 = .ok (.aload_n 0, 1) := by decide +kernel
theorem dX14_open_219 : decode cX14_open 219 = .ok (.getfield 62, 3) := by decide +kernel
theorem dX14_open_222 : decode cX14_open 222 = .ok (.iload 4, 2) := by decide +kernel
theorem dX14_open_224 : decode cX14_open 224 = .ok (.iaload, 1) := by decide +kernel
theorem dX14_open_225 : decode cX14_open 225 = .ok (.putfield 524, 3) := by decide +kernel
theorem dX14_open_228 : decode cX14_open 228 = .ok (.aload 7, 2) := by decide +kernel
theorem dX14_open_230 : decode cX14_open 230 = .ok (.aload_n 0, 1) := by decide +kernel
theorem dX14_open_231 : decode cX14_open 231 = .ok (.getfield 55, 3) := by decide +kernel
theorem dX14_open_234 : decode cX14_open 234 = .ok (.iload 5, 2) := by decide +kernel
theorem dX14_open_236 : decode cX14_open 236 = .ok (.iaload, 1) := by decide +kernel
theorem dX14_open_237 : decode cX14_open 237 = .ok (.aload_n 0, 1) := by decide +kernel
theorem dX14_open_238 : decode cX14_open 238 = .ok (.getfield 52, 3) := by decide +kernel
theorem dX14_open_241 : decode cX14_open 241 = .ok (.iload 5, 2) := by decide +kernel
theorem dX14_open_243 : decode cX14_open 243 = .ok (.iaload, 1) := by decide +kernel
theorem dX14_open_244 : decode cX14_open 244 = .ok (.isub, 1) := by decide +kernel
theorem dX14_open_245 : decode cX14_open 245 = .ok (.putfield 526, 3) := by decide +kernel
theorem dX14_open_248 : decode cX14_open 248 = .ok (.iconst 0, 1) := by decide +kernel
theorem dX14_open_249 : decode cX14_open 249 = .ok (.istore 8, 2) := by decide +kernel
theorem dX14_open_251 : decode cX14_open 251 = .ok (.iload 8, 2) := by decide +kernel
theorem dX14_open_253 : decode cX14_open 253 = .ok (.aload 7, 2) := by decide +kernel
theorem dX14_open_255 : decode cX14_open 255 = .ok (.getfield 526, 3) := by decide +kernel
theorem dX14_open_258 : decode cX14_open 258 = .ok (.if_icmp .ge 32, 3) := by decide +kernel
theorem dX14_open_261 : decode cX14_open 261 = .ok (.aload 7, 2) := by decide +kernel
theorem dX14_open_263 : decode cX14_open 263 = .ok (.getfield 529, 3) := by decide +kernel
theorem dX14_open_266 : decode cX14_open 266 = .ok (.iload 8, 2) := by decide +kernel
theorem dX14_open_268 : decode cX14_open 268 = .ok (.aload_n 0, 1) := by decide +kernel
theorem dX14_open_269 : decode cX14_open 269 = .ok (.getfield 65, 3) := by decide +kernel
theorem dX14_open_272 : decode cX14_open 272 = .ok (.aload_n 0, 1) := by decide +kernel
theorem dX14_open_273 : decode cX14_open 273 = .ok (.getfield 52, 3) := by decide +kernel
theorem dX14_open_276 : decode cX14_open 276 = .ok (.iload 5, 2) := by decide +kernel
theorem dX14_open_278 : decode cX14_open 278 = .ok (.iaload, 1) := by decide +kernel
theorem dX14_open_279 : decode cX14_open 279 = .ok (.iload 8, 2) := by decide +kernel
theorem dX14_open_281 : decode cX14_open 281 = .ok (.iadd, 1) := by decide +kernel
theorem dX14_open_282 : decode cX14_open 282 = .ok (.iaload, 1) := by decide +kernel
theorem dX14_open_283 : decode cX14_open 283 = .ok (.iastore, 1) := by decide +kernel
theorem dX14_open_284 : decode cX14_open 284 = .ok (.iinc 8 1, 3) := by decide +kernel
theorem dX14_open_287 : decode cX14_open 287 = .ok (.goto (-36), 3) := by decide +kernel
theorem dX14_open_290 : decode cX14_open 290 = .ok (.aload 7, 2) := by decide +kernel
theorem dX14_open_292 : decode cX14_open 292 = .ok (.iconst 0, 1) := by decide +kernel
theorem dX14_open_293 : decode cX14_open 293 = .ok (.putfield 531, 3) := by decide +kernel
theorem dX14_open_296 : decode cX14_open 296 = .ok (.aload 7, 2) := by decide +kernel
theorem dX14_open_298 : decode cX14_open 298 = .ok (.invokestatic 534, 3) := by decide +kernel
theorem dX14_open_301 : decode cX14_open 301 = .ok (.aload_n 0, 1) := by decide +kernel
theorem dX14_open_302 : decode cX14_open 302 = .ok (.aload 7, 2) := by decide +kernel
theorem dX14_open_304 : decode cX14_open 304 = .ok (.invokevirtual 538, 3) := by decide +kernel
theorem dX14_open_307 : decode cX14_open 307 = .ok (.return_, 1) := by decide +kernel
def EX14_open : List (Nat × Nat) := [(14, 1), (14, 2), (14, 4), (14, 5), (14, 9), (15, 5), (15, 7), (15, 10), (15, 11), (15, 15), (15, 18), (15, 19), (15, 20), (15, 21), (15, 30), (15, 31), (15, 32), (15, 33), (15, 34), (15, 36), (15, 38), (15, 39), (15, 40), (15, 41), (15, 42), (15, 46), (15, 49), (16, 3), (16, 4), (16, 6), (16, 36), (16, 37), (16, 39), (16, 40), (16, 42), (16, 48), (101, 0), (103, 0), (150, 0), (151, 0), (152, 0), (153, 0), (154, 0), (155, 0), (156, 0), (157, 0), (158, 0), (159, 0), (160, 0), (161, 0), (162, 0), (163, 0), (164, 0), (165, 0), (166, 0), (167, 0), (168, 0), (169, 0), (190, 0), (191, 0), (192, 0), (202, 0), (203, 0), (204, 0), (206, 0)]
set_option maxHeartbeats 4000000 in
set_option maxRecDepth 20000 in
theorem uX14_open (l : Launch) (dC : Nat → ClassId) (dI : Nat → Nat → Nat) (ca : Nat → ClassId) (base : Nat) (B : jF) (hB : jBok B) (hAp : jAp (dC, dI)) (hB14 : ∀ n G a H, B 14 n G a H ↔ jOb (dC, dI) 14 11 (F14 n G) a H) (hB15 : ∀ n G a H, B 15 n G a H ↔ jOb (dC, dI) 15 50 (F15 n G) a H) (hB16 : ∀ n G a H, B 16 n G a H ↔ jOb (dC, dI) 16 74 (F16 n G) a H) (hB101 : ∀ n G a H, B 101 n G a H ↔ jAr (dC, dI) (ca 1) (fun j z => True) n a H) (hB103 : ∀ n G a H, B 103 n G a H ↔ jAr (dC, dI) (ca 3) (fun j z => (z = 0 ∨ z = 1)) n a H) (hB117 : ∀ n G a H, B 117 n G a H ↔ jAr (dC, dI) (ca 1) (fun j z => True) n a H) (hB118 : ∀ n G a H, B 118 n G a H ↔ jAr (dC, dI) (ca 1) (fun j z => -1 ≤ z.toInt ∧ z.toInt ≤ 3099) n a H) (hB119 : ∀ n G a H, B 119 n G a H ↔ jAr (dC, dI) (ca 1) (fun j z => z.toInt = -1 ∨ (j < z.toInt ∧ z.toInt ≤ 3099)) n a H) (hB120 : ∀ n G a H, B 120 n G a H ↔ jAr (dC, dI) (ca 1) (fun j z => 0 ≤ z.toInt ∧ z.toInt ≤ 3300) n a H) (hB121 : ∀ n G a H, B 121 n G a H ↔ jAr (dC, dI) (ca 1) (fun j z => 0 ≤ z.toInt ∧ z.toInt ≤ 3300) n a H) (hB122 : ∀ n G a H, B 122 n G a H ↔ jAr (dC, dI) (ca 1) (fun j z => 0 ≤ z.toInt ∧ z.toInt ≤ 3100) n a H) (hB123 : ∀ n G a H, B 123 n G a H ↔ jAr (dC, dI) (ca 1) (fun j z => 0 ≤ z.toInt ∧ z.toInt ≤ 3100) n a H) (hB124 : ∀ n G a H, B 124 n G a H ↔ jAr (dC, dI) (ca 3) (fun j z => (z = 0 ∨ z = 1)) n a H) (hB125 : ∀ n G a H, B 125 n G a H ↔ jAr (dC, dI) (ca 1) (fun j z => True) n a H) (hB127 : ∀ n G a H, B 127 n G a H ↔ jAr (dC, dI) (ca 1) (fun j z => True) n a H) (hB150 : ∀ n G a H, B 150 n G a H ↔ jAr (dC, dI) (ca 1) (fun j z => True) n a H) (hB151 : ∀ n G a H, B 151 n G a H ↔ jAr (dC, dI) (ca 1) (fun j z => True) n a H) (hB152 : ∀ n G a H, B 152 n G a H ↔ jAr (dC, dI) (ca 1) (fun j z => True) n a H) (hB153 : ∀ n G a H, B 153 n G a H ↔ jAr (dC, dI) (ca 1) (fun j z => True) n a H) (hB154 : ∀ n G a H, B 154 n G a H ↔ jAr (dC, dI) (ca 1) (fun j z => True) n a H) (hB155 : ∀ n G a H, B 155 n G a H ↔ jAr (dC, dI) (ca 1) (fun j z => 0 ≤ z.toInt ∧ z.toInt ≤ 11990) n a H) (hB156 : ∀ n G a H, B 156 n G a H ↔ jAr (dC, dI) (ca 1) (fun j z => 0 ≤ z.toInt ∧ z.toInt ≤ 10) n a H) (hB157 : ∀ n G a H, B 157 n G a H ↔ jAr (dC, dI) (ca 1) (fun j z => 0 ≤ z.toInt ∧ z.toInt ≤ 1599) n a H) (hB158 : ∀ n G a H, B 158 n G a H ↔ jAr (dC, dI) (ca 1) (fun j z => 0 ≤ z.toInt ∧ z.toInt ≤ 6) n a H) (hB159 : ∀ n G a H, B 159 n G a H ↔ jAr (dC, dI) (ca 1) (fun j z => 0 ≤ z.toInt ∧ z.toInt ≤ 8) n a H) (hB160 : ∀ n G a H, B 160 n G a H ↔ jAr (dC, dI) (ca 1) (fun j z => 0 ≤ z.toInt ∧ z.toInt ≤ 119999) n a H) (hB161 : ∀ n G a H, B 161 n G a H ↔ jAr (dC, dI) (ca 1) (fun j z => 0 ≤ z.toInt ∧ z.toInt ≤ 119999) n a H) (hB162 : ∀ n G a H, B 162 n G a H ↔ jAr (dC, dI) (ca 1) (fun j z => 0 ≤ z.toInt ∧ z.toInt ≤ 119999) n a H) (hB163 : ∀ n G a H, B 163 n G a H ↔ jAr (dC, dI) (ca 1) (fun j z => 0 ≤ z.toInt ∧ z.toInt ≤ 1599) n a H) (hB164 : ∀ n G a H, B 164 n G a H ↔ jAr (dC, dI) (ca 1) (fun j z => 0 ≤ z.toInt ∧ z.toInt ≤ 100000) n a H) (hB165 : ∀ n G a H, B 165 n G a H ↔ jAr (dC, dI) (ca 1) (fun j z => 0 ≤ z.toInt ∧ z.toInt ≤ 3) n a H) (hB166 : ∀ n G a H, B 166 n G a H ↔ jAr (dC, dI) (ca 1) (fun j z => True) n a H) (hB167 : ∀ n G a H, B 167 n G a H ↔ jAr (dC, dI) (ca 1) (fun j z => True) n a H) (hB168 : ∀ n G a H, B 168 n G a H ↔ jAr (dC, dI) (ca 1) (fun j z => 0 ≤ z.toInt ∧ z.toInt ≤ 119999) n a H) (hB169 : ∀ n G a H, B 169 n G a H ↔ jAr (dC, dI) (ca 1) (fun j z => True) n a H) (hB190 : ∀ n G a H, B 190 n G a H ↔ jAr (dC, dI) (ca 1) (fun j z => 0 ≤ z.toInt ∧ z.toInt ≤ 1500) n a H) (hB191 : ∀ n G a H, B 191 n G a H ↔ jAr (dC, dI) (ca 1) (fun j z => 0 ≤ z.toInt ∧ z.toInt ≤ 1500) n a H) (hB192 : ∀ n G a H, B 192 n G a H ↔ jAr (dC, dI) (ca 1) (fun j z => 0 ≤ z.toInt ∧ z.toInt ≤ 2) n a H) (hB193 : ∀ n G a H, B 193 n G a H ↔ jAr (dC, dI) (ca 1) (fun j z => True) n a H) (hB201 : ∀ n G a H, B 201 n G a H ↔ jAq (dC, dI) (ca 4) (jQs 14 0) n G a H) (hB202 : ∀ n G a H, B 202 n G a H ↔ jAq (dC, dI) (ca 4) (jQn 14 0) n G a H) (hB203 : ∀ n G a H, B 203 n G a H ↔ jAr (dC, dI) (ca 1) (fun j z => -3300 ≤ z.toInt ∧ z.toInt ≤ 20) n a H) (hB204 : ∀ n G a H, B 204 n G a H ↔ jAr (dC, dI) (ca 1) (fun j z => -3100 ≤ z.toInt ∧ z.toInt ≤ 3100) n a H) (hB206 : ∀ n G a H, B 206 n G a H ↔ jAr (dC, dI) (ca 1) (fun j z => 0 ≤ z.toInt ∧ z.toInt ≤ 40) n a H) (G0 : jT) (H0 : Heap) (r0 : Nat) (a1 : Int32) (xb : Nat) (xe : Nat) (dd : Nat) (dc : Int32) (co : Nat) (cs : Nat) (ol : Nat) (nw : Nat) (td : Nat) (sn ck : Nat → Int32) (fd fo : Nat → Option Nat) (fb : Nat → Int32) (fe : Nat → Int32) (fs : Nat → Int32) : Met l yX14_open (jw yX14_open cX14_open 9 none) ({ frames := 1706, cells := 0, slots := 0, locals := 71955 }) (va_Pc [.ref r0, .int a1] (fun U => U.heap = H0 ∧ jX B base G0 [] H0 ∧ jG dC dI ca base U ∧ jK2 dC dI ca U ∧ G0 r0 = some (16, 0) ∧ G0 xb = some (122, 3100) ∧ G0 xe = some (123, 3100) ∧ G0 dd = some (201, 3) ∧ G0 co = some (208, 2) ∧ G0 cs = some (207, 2) ∧ G0 ol = some (14, 0) ∧ G0 nw = some (14, 0) ∧ G0 td = some (14, 0) ∧ jP (dC, dI) G0 H0 [(r0, 16, 22, .ref xb), (r0, 16, 23, .ref xe), (r0, 16, 41, .ref dd), (r0, 16, 42, .int dc), (r0, 16, 60, .ref co), (r0, 16, 61, .ref cs), (r0, 16, 46, .ref ol), (r0, 16, 47, .ref nw), (r0, 16, 71, .ref td)] ∧ jMc (dC, dI) G0 H0 [(xb, 122, 3100, ca 1, fb), (xe, 123, 3100, ca 1, fe), (cs, 207, 2, ca 1, fs)] ∧ jIs (dC, dI) G0 H0 [(jFs, jDY dC dI ca G0 none sn), (jF9, jVl dC dI G0 9 ck), ([(201, 0)], jQc dC dI (ca 4) dd 3 fd), ([(208, 0)], jQc dC dI (ca 4) co 2 fo)] ∧ jPu sn ck fd fo fs dc.toInt ol nw td ∧ a1.toInt ≤ 3099 ∧ jLeA fb fe)) (va_Qv (S := Unit) (fun u => True) (fun u t => (jRt (dC, dI) B base G0 EX14_open H0 [] t.heap) ∧ jDV dC dI ca G0 r0 dd co cs ol nw td t.heap) (jA base)) 0 0 (jA base) := by
  refine Met.ofW (cc := cX14_open) (maxL := 9) (ret := none) (by decide) rfl ?_
  intro p e s m args below meth c s₁ Bd hml hv
  obtain ⟨rfl, hH0, hX, hG, hK2, hg_r0, hg_xb, hg_xe, hg_dd, hg_co, hg_cs, hg_ol, hg_nw, hg_td, hP0, hM0, hI0, hp0, hp1, hp2⟩ := hv
  have hK := hG.1
  have hx := Bd.exec
  have hb := Bd.bytes
  have hr := Bd.returns
  have hts := atoms_spec (ws := (jw yX14_open cX14_open 9 none)) Bd.pre
  have htw : ∀ w ∈ jWl, w.before _ s = true := fun w h => hts w (List.mem_cons_of_mem _ h)
  have hown : s.vm.findClass RX14 = some m.cls := findClass_of_methodNamed Bd.named
  have hlocks := Bd.notSynchronized
  obtain ⟨Q, hQ⟩ : ∃ Q, Q = MQ below (va_Qv (S := Unit) (fun u => True) (fun u t => (jRt (dC, dI) B base G0 EX14_open H0 [] t.heap) ∧ jDV dC dI ca G0 r0 dd co cs ol nw td t.heap) (jA base)) ([.ref r0, .int a1] : List Value).toArray s 0 0 (jA base) := ⟨_, rfl⟩
  rw [← hQ]
  have hl := lv_entry ([.ref r0, .int a1]) (n := 9) (Nat.le_of_ble_eq_true rfl)
  rw [lg_entry_eq]
  generalize (lg_sl ([.ref r0, .int a1]) ++ List.replicate (9 - (lg_sl ([.ref r0, .int a1])).length) Slot.unset).toArray = ls at hl ⊢
  have hl : lv_has ls 9 [(0, .ref r0), (1, .int a1)] := hl
  generalize hR : (headSpec (jw yX14_open cX14_open 9 none) ({ frames := 1706, cells := 0, slots := 0, locals := 71955 })).room = R
  subst hH0
  have hh : jSt (dC, dI) B base G0 G0 EX14_open s.heap 0 0 [(r0, 16, 22, .ref xb), (r0, 16, 23, .ref xe), (r0, 16, 41, .ref dd), (r0, 16, 42, .int dc), (r0, 16, 60, .ref co), (r0, 16, 61, .ref cs), (r0, 16, 46, .ref ol), (r0, 16, 47, .ref nw), (r0, 16, 71, .ref td)] [(xb, 122, 3100, ca 1, fb), (xe, 123, 3100, ca 1, fe), (cs, 207, 2, ca 1, fs)] [(jFs, jDY dC dI ca G0 none sn), (jF9, jVl dC dI G0 9 ck), ([(201, 0)], jQc dC dI (ca 4) dd 3 fd), ([(208, 0)], jQc dC dI (ca 4) co 2 fo)] s.heap [] := jSt.start hX hP0 hM0 hI0
  clear hX hP0
  have hk0 : (0 : Int32).toInt = 0 := by decide
  have hk1 : (1 : Int32).toInt = 1 := by decide
  have hk3 : (3 : Int32).toInt = 3 := by decide
  have hk40 : (40 : Int32).toInt = 40 := by decide
  have hk1500 : (1500 : Int32).toInt = 1500 := by decide
  have hly_14_0 := htw (u_lay RX12 TX12 0) (jWc_wsX120 _ (u_in_lay (by decide)))
  have hly_14_1 := htw (u_lay RX12 TX12 1) (jWc_wsX120 _ (u_in_lay (by decide)))
  have hly_14_2 := htw (u_lay RX12 TX12 2) (jWc_wsX120 _ (u_in_lay (by decide)))
  have hly_14_3 := htw (u_lay RX12 TX12 3) (jWc_wsX120 _ (u_in_lay (by decide)))
  have hly_14_4 := htw (u_lay RX12 TX12 4) (jWc_wsX120 _ (u_in_lay (by decide)))
  have hly_14_9 := htw (u_lay RX12 TX12 9) (jWc_wsX120 _ (u_in_lay (by decide)))
  have hly_16_22 := htw (u_lay RX14 TX14 22) (jWc_wsX140 _ (u_in_lay (by decide)))
  have hly_16_23 := htw (u_lay RX14 TX14 23) (jWc_wsX140 _ (u_in_lay (by decide)))
  have hly_16_25 := htw (u_lay RX14 TX14 25) (jWc_wsX140 _ (u_in_lay (by decide)))
  have hly_16_27 := htw (u_lay RX14 TX14 27) (jWc_wsX140 _ (u_in_lay (by decide)))
  have hly_16_41 := htw (u_lay RX14 TX14 41) (jWc_wsX140 _ (u_in_lay (by decide)))
  have hly_16_42 := htw (u_lay RX14 TX14 42) (jWc_wsX140 _ (u_in_lay (by decide)))
  obtain ⟨str514, rstr514, hstr5140⟩ := hG.strT (o := RX14) (k := 514) (tx := "textDocument") (List.mem_of_getElem? (i := 2486) (by decide +kernel))
  have hTstr514 : jStrF base str514 12 (jChT "textDocument") s s.heap := hstr5140.F (by decide +kernel)
  have hstr514 : jStr base str514 12 s s.heap := hTstr514.str
  obtain ⟨str516, rstr516, hstr5160⟩ := hG.strT (o := RX14) (k := 516) (tx := "uri") (List.mem_of_getElem? (i := 2487) (by decide +kernel))
  have hTstr516 : jStrF base str516 3 (jChT "uri") s s.heap := hstr5160.F (by decide +kernel)
  have hstr516 : jStr base str516 3 s s.heap := hTstr516.str
  obtain ⟨str517, rstr517, hstr5170⟩ := hG.strT (o := RX14) (k := 517) (tx := "version") (List.mem_of_getElem? (i := 2488) (by decide +kernel))
  have hTstr517 : jStrF base str517 7 (jChT "version") s s.heap := hstr5170.F (by decide +kernel)
  have hstr517 : jStr base str517 7 s s.heap := hTstr517.str
  obtain ⟨str519, rstr519, hstr5190⟩ := hG.strT (o := RX14) (k := 519) (tx := "text") (List.mem_of_getElem? (i := 2489) (by decide +kernel))
  have hTstr519 : jStrF base str519 4 (jChT "text") s s.heap := hstr5190.F (by decide +kernel)
  have hstr519 : jStr base str519 4 s s.heap := hTstr519.str
  have hlk_55 := (htw (.fieldLink RX14 55 "ProofServerModel" "to" "[I") (jWr_11 _ (List.mem_of_getElem? (i := 10) rfl)))
  have hlk_52 := (htw (.fieldLink RX14 52 "ProofServerModel" "from" "[I") (jWr_11 _ (List.mem_of_getElem? (i := 9) rfl)))
  have hlk_505 := (htw (.fieldLink RX14 505 "ProofServerModel" "documentCount" "I") (jWr_57 _ (List.mem_of_getElem? (i := 5) rfl)))
  have hlk_74 := (htw (.fieldLink RX14 74 "ProofServerModel" "documents" "[LProofServerModel$Document;") (jWr_11 _ (List.mem_of_getElem? (i := 19) rfl)))
  have hlk_508 := (va_Nw.use (A := ([.ref r0, .int a1] : List Value).toArray) rfl (hG.2.1 RX14 508 "ProofServerModel$Document" "uriLength" "I" "ProofServerModel" (List.mem_of_getElem? (i := 1732) (by decide +kernel))))
  have hlk_511 := (va_Nw.use (A := ([.ref r0, .int a1] : List Value).toArray) rfl (hG.2.1 RX14 511 "ProofServerModel$Document" "uri" "[I" "ProofServerModel" (List.mem_of_getElem? (i := 1731) (by decide +kernel))))
  have hlk_65 := (htw (.fieldLink RX14 65 "ProofServerModel" "pool" "[I") (jWr_11 _ (List.mem_of_getElem? (i := 14) rfl)))
  have hlk_62 := (htw (.fieldLink RX14 62 "ProofServerModel" "ints" "[I") (jWr_11 _ (List.mem_of_getElem? (i := 13) rfl)))
  have hlk_524 := (va_Nw.use (A := ([.ref r0, .int a1] : List Value).toArray) rfl (hG.2.1 RX14 524 "ProofServerModel$Document" "version" "I" "ProofServerModel" (List.mem_of_getElem? (i := 1733) (by decide +kernel))))
  have hlk_526 := (va_Nw.use (A := ([.ref r0, .int a1] : List Value).toArray) rfl (hG.2.1 RX14 526 "ProofServerModel$Document" "units" "I" "ProofServerModel" (List.mem_of_getElem? (i := 1736) (by decide +kernel))))
  have hlk_529 := (va_Nw.use (A := ([.ref r0, .int a1] : List Value).toArray) rfl (hG.2.1 RX14 529 "ProofServerModel$Document" "text" "[I" "ProofServerModel" (List.mem_of_getElem? (i := 1735) (by decide +kernel))))
  have hlk_531 := (va_Nw.use (A := ([.ref r0, .int a1] : List Value).toArray) rfl (hG.2.1 RX14 531 "ProofServerModel$Document" "checked" "I" "ProofServerModel" (List.mem_of_getElem? (i := 1744) (by decide +kernel))))
  have hrg_a1 := jb_rng a1
  obtain ⟨sx_1, esx_1, hsx_1⟩ := hh.sat (C := RX14) (T := TX14) (N := 74) hB16 rfl (by decide) hg_r0 (i := 42) (by decide) rfl 3 rfl
  cases esx_1
  refine lv_aload_n hx hb dX14_open_0 rfl (lv_at hl 0 rfl) ?_
  refine lv_iload_n hx hb dX14_open_1 rfl (lv_at hl 1 rfl) ?_
  refine j_ldcSw hx hb hown rstr514 dX14_open_2 ?_
  obtain ⟨v_4, hv_4, hh_5⟩ := hh.pin (C := RX14) (T := TX14) (N := 74) hB16 rfl (by decide) hg_r0 (i := 17) (by decide) rfl
  obtain ⟨sort_6, rfl, hg_sort_6⟩ := hv_4
  obtain ⟨v_7, hv_7, hh_8⟩ := hh_5.pin (C := RX14) (T := TX14) (N := 74) hB16 rfl (by decide) hg_r0 (i := 18) (by decide) rfl
  obtain ⟨heir_9, rfl, hg_heir_9⟩ := hv_7
  obtain ⟨v_10, hv_10, hh_11⟩ := hh_8.pin (C := RX14) (T := TX14) (N := 74) hB16 rfl (by decide) hg_r0 (i := 19) (by decide) rfl
  obtain ⟨next_12, rfl, hg_next_12⟩ := hv_10
  obtain ⟨v_13, hv_13, hh_14⟩ := hh_11.pin (C := RX14) (T := TX14) (N := 74) hB16 rfl (by decide) hg_r0 (i := 20) (by decide) rfl
  obtain ⟨nameFrom_15, rfl, hg_nameFrom_15⟩ := hv_13
  obtain ⟨v_16, hv_16, hh_17⟩ := hh_14.pin (C := RX14) (T := TX14) (N := 74) hB16 rfl (by decide) hg_r0 (i := 21) (by decide) rfl
  obtain ⟨nameTo_18, rfl, hg_nameTo_18⟩ := hv_16
  obtain ⟨v_19, hv_19, hh_20⟩ := hh_17.pin (C := RX14) (T := TX14) (N := 74) hB16 rfl (by decide) hg_r0 (i := 27) (by decide) rfl
  obtain ⟨pool_21, rfl, hg_pool_21⟩ := hv_19
  obtain ⟨f_ms_22, hh_22⟩ := hh_20.cpin hB117 (by decide) (by decide) hg_sort_6
  clear hh_20
  obtain ⟨f_mh_23, hh_23⟩ := hh_22.cpin hB118 (by decide) (by decide) hg_heir_9
  clear hh_22
  obtain ⟨f_mx_24, hh_24⟩ := hh_23.cpin hB119 (by decide) (by decide) hg_next_12
  clear hh_23
  obtain ⟨f_mf_25, hh_25⟩ := hh_24.cpin hB120 (by decide) (by decide) hg_nameFrom_15
  clear hh_24
  obtain ⟨f_mt_26, hh_26⟩ := hh_25.cpin hB121 (by decide) (by decide) hg_nameTo_18
  clear hh_25
  obtain ⟨f_mp_27, hh_27⟩ := hh_26.cpin hB127 (by decide) (by decide) hg_pool_21
  clear hh_26
  refine va_calli (A0 := jA base) (H0 := s.heap) (va_runV (As := [.int a1, .ref str514]) (rest := []) ⟨hx, hb, hml, hown, hts⟩ (uX14_memberK l dC dI ca base B hB hAp hB16 hB117 hB118 hB119 hB120 hB121 hB127 G0 s.heap r0 a1 str514 12 (jChT "textDocument") sort_6 heir_9 next_12 nameFrom_15 nameTo_18 pool_21 f_ms_22 f_mh_23 f_mx_24 f_mf_25 f_mt_26 f_mp_27) (cwV 2 hts (jgV (jWr_55 _ (List.mem_of_getElem? (i := 15) rfl)) (jWr_55 _ (List.mem_of_getElem? (i := 16) rfl)) (jWr_55 _ (List.mem_of_getElem? (i := 17) rfl)) (jWr_1 _ (List.mem_of_getElem? (i := 5) rfl)) (jWr_55 _ (List.mem_of_getElem? (i := 18) rfl))) rfl rfl rfl (by decide +kernel) ⟨by rw [← hR]; exact Nat.le_of_ble_eq_true rfl, by rw [← hR]; exact Nat.le_of_ble_eq_true rfl⟩) ⟨fun a U g mk q => by obtain ⟨q0, q1, q2, qK, q10, q11, q12, q13, q14, q15, q16, q17, q18, q19, q20⟩ := q; exact ⟨q0, q1, q2, jG.calling g mk a qK, (q10.moved (Vm.Alike.refl U.vm)), q11, q12, q13, q14, q15, q16, q17, q18, q19, q20⟩, hh_27.recv (C := RX14) (T := TX14) (N := 74) hB16 rfl (by decide) hg_r0 hK, fun U hU hW => ⟨rfl, hU, hh_27.2.1, hG.step hW hU hh_27.1, (hTstr514.moved hW.alike).kept hh_27.1.2.1, hg_r0, hg_sort_6, hg_heir_9, hg_next_12, hg_nameFrom_15, hg_nameTo_18, hg_pool_21, (hh_27.2.2.1.sub (L1 := [(r0, 16, 17, .ref sort_6), (r0, 16, 18, .ref heir_9), (r0, 16, 19, .ref next_12), (r0, 16, 20, .ref nameFrom_15), (r0, 16, 21, .ref nameTo_18), (r0, 16, 27, .ref pool_21)]) [5, 4, 3, 2, 1, 0] rfl), (hh_27.2.2.2.2.2.2.2.1.sub (L1 := [(sort_6, 117, 3100, ca 1, f_ms_22), (heir_9, 118, 3100, ca 1, f_mh_23), (next_12, 119, 3100, ca 1, f_mx_24), (nameFrom_15, 120, 3100, ca 1, f_mf_25), (nameTo_18, 121, 3100, ca 1, f_mt_26), (pool_21, 127, 3300, ca 1, f_mp_27)]) [5, 4, 3, 2, 1, 0] rfl), by first | omega | (refine ⟨?_, ?_⟩ <;> (first | omega | rfl | assumption | decide | exact Or.inl rfl | exact Or.inr rfl | (simp only; omega)))⟩⟩ rfl rfl hl.1 rfl (lv_room (Nat.le_of_ble_eq_true rfl)) dX14_open_5 ⟨Nat.zero_le _, Nat.zero_le _⟩) hh_27.1 (fun q _ h => h) (fun q h => h) (fun r_3 u_2 t_2 H_2 locs_2 ht_2 hvm_2 hr_3 hb_2 hz_2 hk_2 hS_2 => ?_)
  rw [ht_2] at hb_2
  obtain ⟨hb_21, hb_22, hb_23, hb_24, hb_25⟩ := hb_2
  have hh_2 : jSt (dC, dI) B base G0 G0 EX14_open s.heap 0 0 [(r0, 16, 27, .ref pool_21), (r0, 16, 21, .ref nameTo_18), (r0, 16, 20, .ref nameFrom_15), (r0, 16, 19, .ref next_12), (r0, 16, 18, .ref heir_9), (r0, 16, 17, .ref sort_6), (r0, 16, 22, .ref xb), (r0, 16, 23, .ref xe), (r0, 16, 41, .ref dd), (r0, 16, 42, .int dc), (r0, 16, 60, .ref co), (r0, 16, 61, .ref cs), (r0, 16, 46, .ref ol), (r0, 16, 47, .ref nw), (r0, 16, 71, .ref td)] [(pool_21, 127, 3300, ca 1, f_mp_27), (nameTo_18, 121, 3100, ca 1, f_mt_26), (nameFrom_15, 120, 3100, ca 1, f_mf_25), (next_12, 119, 3100, ca 1, f_mx_24), (heir_9, 118, 3100, ca 1, f_mh_23), (sort_6, 117, 3100, ca 1, f_ms_22), (xb, 122, 3100, ca 1, fb), (xe, 123, 3100, ca 1, fe), (cs, 207, 2, ca 1, fs)] [(jFs, jDY dC dI ca G0 none sn), (jF9, jVl dC dI G0 9 ck), ([(201, 0)], jQc dC dI (ca 4) dd 3 fd), ([(208, 0)], jQc dC dI (ca 4) co 2 fo)] H_2 locs_2 := ((hh_27.call hb_21 hb_22 hb_23 hb_24 hS_2 rfl (L1 := [(r0, 16, 27, .ref pool_21), (r0, 16, 21, .ref nameTo_18), (r0, 16, 20, .ref nameFrom_15), (r0, 16, 19, .ref next_12), (r0, 16, 18, .ref heir_9), (r0, 16, 17, .ref sort_6), (r0, 16, 22, .ref xb), (r0, 16, 23, .ref xe), (r0, 16, 41, .ref dd), (r0, 16, 42, .int dc), (r0, 16, 60, .ref co), (r0, 16, 61, .ref cs), (r0, 16, 46, .ref ol), (r0, 16, 47, .ref nw), (r0, 16, 71, .ref td)]) [0, 1, 2, 3, 4, 5, 6, 7, 8, 9, 10, 11, 12, 13, 14] rfl rfl (M1 := [(pool_21, 127, 3300, ca 1, f_mp_27), (nameTo_18, 121, 3100, ca 1, f_mt_26), (nameFrom_15, 120, 3100, ca 1, f_mf_25), (next_12, 119, 3100, ca 1, f_mx_24), (heir_9, 118, 3100, ca 1, f_mh_23), (sort_6, 117, 3100, ca 1, f_ms_22), (xb, 122, 3100, ca 1, fb), (xe, 123, 3100, ca 1, fe), (cs, 207, 2, ca 1, fs)]) [0, 1, 2, 3, 4, 5, 6, 7, 8] rfl rfl (I1 := [(jFs, jDY dC dI ca G0 none sn), (jF9, jVl dC dI G0 9 ck), ([(201, 0)], jQc dC dI (ca 4) dd 3 fd), ([(208, 0)], jQc dC dI (ca 4) co 2 fo)]) [0, 1, 2, 3] rfl rfl).more hb_25)
  clear hh_27 ht_2 hvm_2 hz_2 hk_2 hS_2 hb_21 hb_22 hb_23 hb_24 hb_25
  obtain ⟨hr_3_0, hr_3_1, hr_3_2⟩ := hr_3
  refine lv_istore_n (lv' := [(2, .int r_3), (0, .ref r0), (1, .int a1)]) hx hb dX14_open_8 rfl hl (by decide) rfl (fun ls hl => ?_)
  refine lv_aload_n hx hb dX14_open_9 rfl (lv_at hl 1 rfl) ?_
  refine lv_iload_n hx hb dX14_open_10 rfl (lv_at hl 0 rfl) ?_
  refine j_ldcSw hx hb hown rstr516 dX14_open_11 ?_
  refine va_calli (A0 := jA base) (H0 := s.heap) (va_runV (As := [.int r_3, .ref str516]) (rest := []) ⟨hx, hb, hml, hown, hts⟩ (uX14_memberK l dC dI ca base B hB hAp hB16 hB117 hB118 hB119 hB120 hB121 hB127 G0 H_2 r0 r_3 str516 3 (jChT "uri") sort_6 heir_9 next_12 nameFrom_15 nameTo_18 pool_21 f_ms_22 f_mh_23 f_mx_24 f_mf_25 f_mt_26 f_mp_27) (cwV 2 hts (jgV (jWr_55 _ (List.mem_of_getElem? (i := 15) rfl)) (jWr_55 _ (List.mem_of_getElem? (i := 16) rfl)) (jWr_55 _ (List.mem_of_getElem? (i := 17) rfl)) (jWr_1 _ (List.mem_of_getElem? (i := 5) rfl)) (jWr_55 _ (List.mem_of_getElem? (i := 18) rfl))) rfl rfl rfl (by decide +kernel) ⟨by rw [← hR]; exact Nat.le_of_ble_eq_true rfl, by rw [← hR]; exact Nat.le_of_ble_eq_true rfl⟩) ⟨fun a U g mk q => by obtain ⟨q0, q1, q2, qK, q10, q11, q12, q13, q14, q15, q16, q17, q18, q19, q20⟩ := q; exact ⟨q0, q1, q2, jG.calling g mk a qK, (q10.moved (Vm.Alike.refl U.vm)), q11, q12, q13, q14, q15, q16, q17, q18, q19, q20⟩, hh_2.recv (C := RX14) (T := TX14) (N := 74) hB16 rfl (by decide) hg_r0 hK, fun U hU hW => ⟨rfl, hU, hh_2.2.1, hG.step hW hU hh_2.1, (hTstr516.moved hW.alike).kept hh_2.1.2.1, hg_r0, hg_sort_6, hg_heir_9, hg_next_12, hg_nameFrom_15, hg_nameTo_18, hg_pool_21, (hh_2.2.2.1.sub (L1 := [(r0, 16, 17, .ref sort_6), (r0, 16, 18, .ref heir_9), (r0, 16, 19, .ref next_12), (r0, 16, 20, .ref nameFrom_15), (r0, 16, 21, .ref nameTo_18), (r0, 16, 27, .ref pool_21)]) [5, 4, 3, 2, 1, 0] rfl), (hh_2.2.2.2.2.2.2.2.1.sub (L1 := [(sort_6, 117, 3100, ca 1, f_ms_22), (heir_9, 118, 3100, ca 1, f_mh_23), (next_12, 119, 3100, ca 1, f_mx_24), (nameFrom_15, 120, 3100, ca 1, f_mf_25), (nameTo_18, 121, 3100, ca 1, f_mt_26), (pool_21, 127, 3300, ca 1, f_mp_27)]) [5, 4, 3, 2, 1, 0] rfl), by first | omega | (refine ⟨?_, ?_⟩ <;> (first | omega | rfl | assumption | decide | exact Or.inl rfl | exact Or.inr rfl | (simp only; omega)))⟩⟩ rfl rfl hl.1 rfl (lv_room (Nat.le_of_ble_eq_true rfl)) dX14_open_14 ⟨Nat.zero_le _, Nat.zero_le _⟩) hh_2.1 (fun q _ h => h) (fun q h => h) (fun r_29 u_28 t_28 H_28 locs_28 ht_28 hvm_28 hr_29 hb_28 hz_28 hk_28 hS_28 => ?_)
  rw [ht_28] at hb_28
  obtain ⟨hb_281, hb_282, hb_283, hb_284, hb_285⟩ := hb_28
  have hh_28 : jSt (dC, dI) B base G0 G0 EX14_open s.heap 0 0 [(r0, 16, 27, .ref pool_21), (r0, 16, 21, .ref nameTo_18), (r0, 16, 20, .ref nameFrom_15), (r0, 16, 19, .ref next_12), (r0, 16, 18, .ref heir_9), (r0, 16, 17, .ref sort_6), (r0, 16, 22, .ref xb), (r0, 16, 23, .ref xe), (r0, 16, 41, .ref dd), (r0, 16, 42, .int dc), (r0, 16, 60, .ref co), (r0, 16, 61, .ref cs), (r0, 16, 46, .ref ol), (r0, 16, 47, .ref nw), (r0, 16, 71, .ref td)] [(pool_21, 127, 3300, ca 1, f_mp_27), (nameTo_18, 121, 3100, ca 1, f_mt_26), (nameFrom_15, 120, 3100, ca 1, f_mf_25), (next_12, 119, 3100, ca 1, f_mx_24), (heir_9, 118, 3100, ca 1, f_mh_23), (sort_6, 117, 3100, ca 1, f_ms_22), (xb, 122, 3100, ca 1, fb), (xe, 123, 3100, ca 1, fe), (cs, 207, 2, ca 1, fs)] [(jFs, jDY dC dI ca G0 none sn), (jF9, jVl dC dI G0 9 ck), ([(201, 0)], jQc dC dI (ca 4) dd 3 fd), ([(208, 0)], jQc dC dI (ca 4) co 2 fo)] H_28 locs_28 := ((hh_2.call hb_281 hb_282 hb_283 hb_284 hS_28 rfl (L1 := [(r0, 16, 27, .ref pool_21), (r0, 16, 21, .ref nameTo_18), (r0, 16, 20, .ref nameFrom_15), (r0, 16, 19, .ref next_12), (r0, 16, 18, .ref heir_9), (r0, 16, 17, .ref sort_6), (r0, 16, 22, .ref xb), (r0, 16, 23, .ref xe), (r0, 16, 41, .ref dd), (r0, 16, 42, .int dc), (r0, 16, 60, .ref co), (r0, 16, 61, .ref cs), (r0, 16, 46, .ref ol), (r0, 16, 47, .ref nw), (r0, 16, 71, .ref td)]) [0, 1, 2, 3, 4, 5, 6, 7, 8, 9, 10, 11, 12, 13, 14] rfl rfl (M1 := [(pool_21, 127, 3300, ca 1, f_mp_27), (nameTo_18, 121, 3100, ca 1, f_mt_26), (nameFrom_15, 120, 3100, ca 1, f_mf_25), (next_12, 119, 3100, ca 1, f_mx_24), (heir_9, 118, 3100, ca 1, f_mh_23), (sort_6, 117, 3100, ca 1, f_ms_22), (xb, 122, 3100, ca 1, fb), (xe, 123, 3100, ca 1, fe), (cs, 207, 2, ca 1, fs)]) [0, 1, 2, 3, 4, 5, 6, 7, 8] rfl rfl (I1 := [(jFs, jDY dC dI ca G0 none sn), (jF9, jVl dC dI G0 9 ck), ([(201, 0)], jQc dC dI (ca 4) dd 3 fd), ([(208, 0)], jQc dC dI (ca 4) co 2 fo)]) [0, 1, 2, 3] rfl rfl).more hb_285)
  clear hh_2 ht_28 hvm_28 hz_28 hk_28 hS_28 hb_281 hb_282 hb_283 hb_284 hb_285
  obtain ⟨hr_29_0, hr_29_1, hr_29_2⟩ := hr_29
  refine lv_istore_n (lv' := [(3, .int r_29), (2, .int r_3), (0, .ref r0), (1, .int a1)]) hx hb dX14_open_17 rfl hl (by decide) rfl (fun ls hl => ?_)
  refine lv_aload_n hx hb dX14_open_18 rfl (lv_at hl 2 rfl) ?_
  refine lv_iload_n hx hb dX14_open_19 rfl (lv_at hl 1 rfl) ?_
  refine j_ldcSw hx hb hown rstr517 dX14_open_20 ?_
  refine va_calli (A0 := jA base) (H0 := s.heap) (va_runV (As := [.int r_3, .ref str517]) (rest := []) ⟨hx, hb, hml, hown, hts⟩ (uX14_memberK l dC dI ca base B hB hAp hB16 hB117 hB118 hB119 hB120 hB121 hB127 G0 H_28 r0 r_3 str517 7 (jChT "version") sort_6 heir_9 next_12 nameFrom_15 nameTo_18 pool_21 f_ms_22 f_mh_23 f_mx_24 f_mf_25 f_mt_26 f_mp_27) (cwV 2 hts (jgV (jWr_55 _ (List.mem_of_getElem? (i := 15) rfl)) (jWr_55 _ (List.mem_of_getElem? (i := 16) rfl)) (jWr_55 _ (List.mem_of_getElem? (i := 17) rfl)) (jWr_1 _ (List.mem_of_getElem? (i := 5) rfl)) (jWr_55 _ (List.mem_of_getElem? (i := 18) rfl))) rfl rfl rfl (by decide +kernel) ⟨by rw [← hR]; exact Nat.le_of_ble_eq_true rfl, by rw [← hR]; exact Nat.le_of_ble_eq_true rfl⟩) ⟨fun a U g mk q => by obtain ⟨q0, q1, q2, qK, q10, q11, q12, q13, q14, q15, q16, q17, q18, q19, q20⟩ := q; exact ⟨q0, q1, q2, jG.calling g mk a qK, (q10.moved (Vm.Alike.refl U.vm)), q11, q12, q13, q14, q15, q16, q17, q18, q19, q20⟩, hh_28.recv (C := RX14) (T := TX14) (N := 74) hB16 rfl (by decide) hg_r0 hK, fun U hU hW => ⟨rfl, hU, hh_28.2.1, hG.step hW hU hh_28.1, (hTstr517.moved hW.alike).kept hh_28.1.2.1, hg_r0, hg_sort_6, hg_heir_9, hg_next_12, hg_nameFrom_15, hg_nameTo_18, hg_pool_21, (hh_28.2.2.1.sub (L1 := [(r0, 16, 17, .ref sort_6), (r0, 16, 18, .ref heir_9), (r0, 16, 19, .ref next_12), (r0, 16, 20, .ref nameFrom_15), (r0, 16, 21, .ref nameTo_18), (r0, 16, 27, .ref pool_21)]) [5, 4, 3, 2, 1, 0] rfl), (hh_28.2.2.2.2.2.2.2.1.sub (L1 := [(sort_6, 117, 3100, ca 1, f_ms_22), (heir_9, 118, 3100, ca 1, f_mh_23), (next_12, 119, 3100, ca 1, f_mx_24), (nameFrom_15, 120, 3100, ca 1, f_mf_25), (nameTo_18, 121, 3100, ca 1, f_mt_26), (pool_21, 127, 3300, ca 1, f_mp_27)]) [5, 4, 3, 2, 1, 0] rfl), by first | omega | (refine ⟨?_, ?_⟩ <;> (first | omega | rfl | assumption | decide | exact Or.inl rfl | exact Or.inr rfl | (simp only; omega)))⟩⟩ rfl rfl hl.1 rfl (lv_room (Nat.le_of_ble_eq_true rfl)) dX14_open_23 ⟨Nat.zero_le _, Nat.zero_le _⟩) hh_28.1 (fun q _ h => h) (fun q h => h) (fun r_31 u_30 t_30 H_30 locs_30 ht_30 hvm_30 hr_31 hb_30 hz_30 hk_30 hS_30 => ?_)
  rw [ht_30] at hb_30
  obtain ⟨hb_301, hb_302, hb_303, hb_304, hb_305⟩ := hb_30
  have hh_30 : jSt (dC, dI) B base G0 G0 EX14_open s.heap 0 0 [(r0, 16, 27, .ref pool_21), (r0, 16, 21, .ref nameTo_18), (r0, 16, 20, .ref nameFrom_15), (r0, 16, 19, .ref next_12), (r0, 16, 18, .ref heir_9), (r0, 16, 17, .ref sort_6), (r0, 16, 22, .ref xb), (r0, 16, 23, .ref xe), (r0, 16, 41, .ref dd), (r0, 16, 42, .int dc), (r0, 16, 60, .ref co), (r0, 16, 61, .ref cs), (r0, 16, 46, .ref ol), (r0, 16, 47, .ref nw), (r0, 16, 71, .ref td)] [(pool_21, 127, 3300, ca 1, f_mp_27), (nameTo_18, 121, 3100, ca 1, f_mt_26), (nameFrom_15, 120, 3100, ca 1, f_mf_25), (next_12, 119, 3100, ca 1, f_mx_24), (heir_9, 118, 3100, ca 1, f_mh_23), (sort_6, 117, 3100, ca 1, f_ms_22), (xb, 122, 3100, ca 1, fb), (xe, 123, 3100, ca 1, fe), (cs, 207, 2, ca 1, fs)] [(jFs, jDY dC dI ca G0 none sn), (jF9, jVl dC dI G0 9 ck), ([(201, 0)], jQc dC dI (ca 4) dd 3 fd), ([(208, 0)], jQc dC dI (ca 4) co 2 fo)] H_30 locs_30 := ((hh_28.call hb_301 hb_302 hb_303 hb_304 hS_30 rfl (L1 := [(r0, 16, 27, .ref pool_21), (r0, 16, 21, .ref nameTo_18), (r0, 16, 20, .ref nameFrom_15), (r0, 16, 19, .ref next_12), (r0, 16, 18, .ref heir_9), (r0, 16, 17, .ref sort_6), (r0, 16, 22, .ref xb), (r0, 16, 23, .ref xe), (r0, 16, 41, .ref dd), (r0, 16, 42, .int dc), (r0, 16, 60, .ref co), (r0, 16, 61, .ref cs), (r0, 16, 46, .ref ol), (r0, 16, 47, .ref nw), (r0, 16, 71, .ref td)]) [0, 1, 2, 3, 4, 5, 6, 7, 8, 9, 10, 11, 12, 13, 14] rfl rfl (M1 := [(pool_21, 127, 3300, ca 1, f_mp_27), (nameTo_18, 121, 3100, ca 1, f_mt_26), (nameFrom_15, 120, 3100, ca 1, f_mf_25), (next_12, 119, 3100, ca 1, f_mx_24), (heir_9, 118, 3100, ca 1, f_mh_23), (sort_6, 117, 3100, ca 1, f_ms_22), (xb, 122, 3100, ca 1, fb), (xe, 123, 3100, ca 1, fe), (cs, 207, 2, ca 1, fs)]) [0, 1, 2, 3, 4, 5, 6, 7, 8] rfl rfl (I1 := [(jFs, jDY dC dI ca G0 none sn), (jF9, jVl dC dI G0 9 ck), ([(201, 0)], jQc dC dI (ca 4) dd 3 fd), ([(208, 0)], jQc dC dI (ca 4) co 2 fo)]) [0, 1, 2, 3] rfl rfl).more hb_305)
  clear hh_28 ht_30 hvm_30 hz_30 hk_30 hS_30 hb_301 hb_302 hb_303 hb_304 hb_305
  obtain ⟨hr_31_0, hr_31_1, hr_31_2⟩ := hr_31
  refine lv_istore (lv' := [(4, .int r_31), (3, .int r_29), (2, .int r_3), (0, .ref r0), (1, .int a1)]) hx hb dX14_open_26 hl (by decide) rfl (fun ls hl => ?_)
  refine lv_aload_n hx hb dX14_open_28 rfl (lv_at hl 3 rfl) ?_
  refine lv_iload_n hx hb dX14_open_29 rfl (lv_at hl 2 rfl) ?_
  refine j_ldcSw hx hb hown rstr519 dX14_open_30 ?_
  refine va_calli (A0 := jA base) (H0 := s.heap) (va_runV (As := [.int r_3, .ref str519]) (rest := []) ⟨hx, hb, hml, hown, hts⟩ (uX14_memberK l dC dI ca base B hB hAp hB16 hB117 hB118 hB119 hB120 hB121 hB127 G0 H_30 r0 r_3 str519 4 (jChT "text") sort_6 heir_9 next_12 nameFrom_15 nameTo_18 pool_21 f_ms_22 f_mh_23 f_mx_24 f_mf_25 f_mt_26 f_mp_27) (cwV 2 hts (jgV (jWr_55 _ (List.mem_of_getElem? (i := 15) rfl)) (jWr_55 _ (List.mem_of_getElem? (i := 16) rfl)) (jWr_55 _ (List.mem_of_getElem? (i := 17) rfl)) (jWr_1 _ (List.mem_of_getElem? (i := 5) rfl)) (jWr_55 _ (List.mem_of_getElem? (i := 18) rfl))) rfl rfl rfl (by decide +kernel) ⟨by rw [← hR]; exact Nat.le_of_ble_eq_true rfl, by rw [← hR]; exact Nat.le_of_ble_eq_true rfl⟩) ⟨fun a U g mk q => by obtain ⟨q0, q1, q2, qK, q10, q11, q12, q13, q14, q15, q16, q17, q18, q19, q20⟩ := q; exact ⟨q0, q1, q2, jG.calling g mk a qK, (q10.moved (Vm.Alike.refl U.vm)), q11, q12, q13, q14, q15, q16, q17, q18, q19, q20⟩, hh_30.recv (C := RX14) (T := TX14) (N := 74) hB16 rfl (by decide) hg_r0 hK, fun U hU hW => ⟨rfl, hU, hh_30.2.1, hG.step hW hU hh_30.1, (hTstr519.moved hW.alike).kept hh_30.1.2.1, hg_r0, hg_sort_6, hg_heir_9, hg_next_12, hg_nameFrom_15, hg_nameTo_18, hg_pool_21, (hh_30.2.2.1.sub (L1 := [(r0, 16, 17, .ref sort_6), (r0, 16, 18, .ref heir_9), (r0, 16, 19, .ref next_12), (r0, 16, 20, .ref nameFrom_15), (r0, 16, 21, .ref nameTo_18), (r0, 16, 27, .ref pool_21)]) [5, 4, 3, 2, 1, 0] rfl), (hh_30.2.2.2.2.2.2.2.1.sub (L1 := [(sort_6, 117, 3100, ca 1, f_ms_22), (heir_9, 118, 3100, ca 1, f_mh_23), (next_12, 119, 3100, ca 1, f_mx_24), (nameFrom_15, 120, 3100, ca 1, f_mf_25), (nameTo_18, 121, 3100, ca 1, f_mt_26), (pool_21, 127, 3300, ca 1, f_mp_27)]) [5, 4, 3, 2, 1, 0] rfl), by first | omega | (refine ⟨?_, ?_⟩ <;> (first | omega | rfl | assumption | decide | exact Or.inl rfl | exact Or.inr rfl | (simp only; omega)))⟩⟩ rfl rfl hl.1 rfl (lv_room (Nat.le_of_ble_eq_true rfl)) dX14_open_33 ⟨Nat.zero_le _, Nat.zero_le _⟩) hh_30.1 (fun q _ h => h) (fun q h => h) (fun r_33 u_32 t_32 H_32 locs_32 ht_32 hvm_32 hr_33 hb_32 hz_32 hk_32 hS_32 => ?_)
  rw [ht_32] at hb_32
  obtain ⟨hb_321, hb_322, hb_323, hb_324, hb_325⟩ := hb_32
  have hh_32 : jSt (dC, dI) B base G0 G0 EX14_open s.heap 0 0 [(r0, 16, 27, .ref pool_21), (r0, 16, 21, .ref nameTo_18), (r0, 16, 20, .ref nameFrom_15), (r0, 16, 19, .ref next_12), (r0, 16, 18, .ref heir_9), (r0, 16, 17, .ref sort_6), (r0, 16, 22, .ref xb), (r0, 16, 23, .ref xe), (r0, 16, 41, .ref dd), (r0, 16, 42, .int dc), (r0, 16, 60, .ref co), (r0, 16, 61, .ref cs), (r0, 16, 46, .ref ol), (r0, 16, 47, .ref nw), (r0, 16, 71, .ref td)] [(pool_21, 127, 3300, ca 1, f_mp_27), (nameTo_18, 121, 3100, ca 1, f_mt_26), (nameFrom_15, 120, 3100, ca 1, f_mf_25), (next_12, 119, 3100, ca 1, f_mx_24), (heir_9, 118, 3100, ca 1, f_mh_23), (sort_6, 117, 3100, ca 1, f_ms_22), (xb, 122, 3100, ca 1, fb), (xe, 123, 3100, ca 1, fe), (cs, 207, 2, ca 1, fs)] [(jFs, jDY dC dI ca G0 none sn), (jF9, jVl dC dI G0 9 ck), ([(201, 0)], jQc dC dI (ca 4) dd 3 fd), ([(208, 0)], jQc dC dI (ca 4) co 2 fo)] H_32 locs_32 := ((hh_30.call hb_321 hb_322 hb_323 hb_324 hS_32 rfl (L1 := [(r0, 16, 27, .ref pool_21), (r0, 16, 21, .ref nameTo_18), (r0, 16, 20, .ref nameFrom_15), (r0, 16, 19, .ref next_12), (r0, 16, 18, .ref heir_9), (r0, 16, 17, .ref sort_6), (r0, 16, 22, .ref xb), (r0, 16, 23, .ref xe), (r0, 16, 41, .ref dd), (r0, 16, 42, .int dc), (r0, 16, 60, .ref co), (r0, 16, 61, .ref cs), (r0, 16, 46, .ref ol), (r0, 16, 47, .ref nw), (r0, 16, 71, .ref td)]) [0, 1, 2, 3, 4, 5, 6, 7, 8, 9, 10, 11, 12, 13, 14] rfl rfl (M1 := [(pool_21, 127, 3300, ca 1, f_mp_27), (nameTo_18, 121, 3100, ca 1, f_mt_26), (nameFrom_15, 120, 3100, ca 1, f_mf_25), (next_12, 119, 3100, ca 1, f_mx_24), (heir_9, 118, 3100, ca 1, f_mh_23), (sort_6, 117, 3100, ca 1, f_ms_22), (xb, 122, 3100, ca 1, fb), (xe, 123, 3100, ca 1, fe), (cs, 207, 2, ca 1, fs)]) [0, 1, 2, 3, 4, 5, 6, 7, 8] rfl rfl (I1 := [(jFs, jDY dC dI ca G0 none sn), (jF9, jVl dC dI G0 9 ck), ([(201, 0)], jQc dC dI (ca 4) dd 3 fd), ([(208, 0)], jQc dC dI (ca 4) co 2 fo)]) [0, 1, 2, 3] rfl rfl).more hb_325)
  clear hh_30 ht_32 hvm_32 hz_32 hk_32 hS_32 hb_321 hb_322 hb_323 hb_324 hb_325
  obtain ⟨hr_33_0, hr_33_1, hr_33_2⟩ := hr_33
  refine lv_istore (lv' := [(5, .int r_33), (4, .int r_31), (3, .int r_29), (2, .int r_3), (0, .ref r0), (1, .int a1)]) hx hb dX14_open_36 hl (by decide) rfl (fun ls hl => ?_)
  refine lv_aload_n hx hb dX14_open_38 rfl (lv_at hl 4 rfl) ?_
  refine lv_iload_n hx hb dX14_open_39 rfl (lv_at hl 2 rfl) ?_
  refine va_calli (A0 := jA base) (H0 := s.heap) (va_runV (As := [.int r_29]) (rest := []) ⟨hx, hb, hml, hown, hts⟩ (uX14_isStringK l dC dI ca base B hB hAp hB16 hB117 G0 H_32 r0 r_29 sort_6 f_ms_22) (cwV 1 hts (jgV (jWr_56 _ (List.mem_of_getElem? (i := 3) rfl)) (jWr_56 _ (List.mem_of_getElem? (i := 4) rfl)) (jWr_56 _ (List.mem_of_getElem? (i := 5) rfl)) (jWr_1 _ (List.mem_of_getElem? (i := 5) rfl)) (jWr_56 _ (List.mem_of_getElem? (i := 6) rfl))) rfl rfl rfl (by decide +kernel) ⟨by rw [← hR]; exact Nat.le_of_ble_eq_true rfl, by rw [← hR]; exact Nat.le_of_ble_eq_true rfl⟩) ⟨fun a U g mk q => by obtain ⟨q0, q1, q2, qK, q10, q11, q12, q13, q14⟩ := q; exact ⟨q0, q1, q2, jG.calling g mk a qK, q10, q11, q12, q13, q14⟩, hh_32.recv (C := RX14) (T := TX14) (N := 74) hB16 rfl (by decide) hg_r0 hK, fun U hU hW => ⟨rfl, hU, hh_32.2.1, hG.step hW hU hh_32.1, hg_r0, hg_sort_6, (hh_32.2.2.1.sub (L1 := [(r0, 16, 17, .ref sort_6)]) [5] rfl), (hh_32.2.2.2.2.2.2.2.1.sub (L1 := [(sort_6, 117, 3100, ca 1, f_ms_22)]) [5] rfl), by first | omega | rfl | assumption | decide | exact Or.inl rfl | exact Or.inr rfl | (simp only; omega)⟩⟩ rfl rfl hl.1 rfl (lv_room (Nat.le_of_ble_eq_true rfl)) dX14_open_40 ⟨Nat.zero_le _, Nat.zero_le _⟩) hh_32.1 (fun q _ h => h) (fun q h => h) (fun r_35 u_34 t_34 H_34 locs_34 ht_34 hvm_34 hr_35 hb_34 hz_34 hk_34 hS_34 => ?_)
  rw [ht_34] at hb_34
  obtain ⟨hb_341, hb_342, hb_343, hb_344, hb_345⟩ := hb_34
  have hh_34 : jSt (dC, dI) B base G0 G0 EX14_open s.heap 0 0 [(r0, 16, 27, .ref pool_21), (r0, 16, 21, .ref nameTo_18), (r0, 16, 20, .ref nameFrom_15), (r0, 16, 19, .ref next_12), (r0, 16, 18, .ref heir_9), (r0, 16, 17, .ref sort_6), (r0, 16, 22, .ref xb), (r0, 16, 23, .ref xe), (r0, 16, 41, .ref dd), (r0, 16, 42, .int dc), (r0, 16, 60, .ref co), (r0, 16, 61, .ref cs), (r0, 16, 46, .ref ol), (r0, 16, 47, .ref nw), (r0, 16, 71, .ref td)] [(pool_21, 127, 3300, ca 1, f_mp_27), (nameTo_18, 121, 3100, ca 1, f_mt_26), (nameFrom_15, 120, 3100, ca 1, f_mf_25), (next_12, 119, 3100, ca 1, f_mx_24), (heir_9, 118, 3100, ca 1, f_mh_23), (sort_6, 117, 3100, ca 1, f_ms_22), (xb, 122, 3100, ca 1, fb), (xe, 123, 3100, ca 1, fe), (cs, 207, 2, ca 1, fs)] [(jFs, jDY dC dI ca G0 none sn), (jF9, jVl dC dI G0 9 ck), ([(201, 0)], jQc dC dI (ca 4) dd 3 fd), ([(208, 0)], jQc dC dI (ca 4) co 2 fo)] H_34 locs_34 := ((hh_32.call hb_341 hb_342 hb_343 hb_344 hS_34 rfl (L1 := [(r0, 16, 27, .ref pool_21), (r0, 16, 21, .ref nameTo_18), (r0, 16, 20, .ref nameFrom_15), (r0, 16, 19, .ref next_12), (r0, 16, 18, .ref heir_9), (r0, 16, 17, .ref sort_6), (r0, 16, 22, .ref xb), (r0, 16, 23, .ref xe), (r0, 16, 41, .ref dd), (r0, 16, 42, .int dc), (r0, 16, 60, .ref co), (r0, 16, 61, .ref cs), (r0, 16, 46, .ref ol), (r0, 16, 47, .ref nw), (r0, 16, 71, .ref td)]) [0, 1, 2, 3, 4, 5, 6, 7, 8, 9, 10, 11, 12, 13, 14] rfl rfl (M1 := [(pool_21, 127, 3300, ca 1, f_mp_27), (nameTo_18, 121, 3100, ca 1, f_mt_26), (nameFrom_15, 120, 3100, ca 1, f_mf_25), (next_12, 119, 3100, ca 1, f_mx_24), (heir_9, 118, 3100, ca 1, f_mh_23), (sort_6, 117, 3100, ca 1, f_ms_22), (xb, 122, 3100, ca 1, fb), (xe, 123, 3100, ca 1, fe), (cs, 207, 2, ca 1, fs)]) [0, 1, 2, 3, 4, 5, 6, 7, 8] rfl rfl (I1 := [(jFs, jDY dC dI ca G0 none sn), (jF9, jVl dC dI G0 9 ck), ([(201, 0)], jQc dC dI (ca 4) dd 3 fd), ([(208, 0)], jQc dC dI (ca 4) co 2 fo)]) [0, 1, 2, 3] rfl rfl).more hb_345)
  clear hh_32 ht_34 hvm_34 hz_34 hk_34 hS_34 hb_341 hb_342 hb_343 hb_344 hb_345
  obtain ⟨hr_35b, hr_35p⟩ := hr_35
  obtain ⟨hr_35p_0, hr_35p_1, hr_35p_2⟩ := hr_35p
  have hr_35' := jb_01 hr_35b
  refine lv_if_eq (tgt := 111) hx hb dX14_open_43 (by decide) (fun c_36 => ?_) (fun c_36 => ?_)
  · skip
    have c_36' : r_35.toInt = 0 := jb_eq (rfl) ((by decide)) c_36
    refine lv_iconst (v := 0) hx hb dX14_open_111 (by decide) ?_
    refine lv_istore (lv' := [(6, .int 0), (5, .int r_33), (4, .int r_31), (3, .int r_29), (2, .int r_3), (0, .ref r0), (1, .int a1)]) hx hb dX14_open_112 hl (by decide) rfl (fun ls hl => ?_)
    refine lv_iload hx hb dX14_open_114 (lv_at hl 0 rfl) ?_
    refine lv_if_eq (tgt := 135) hx hb dX14_open_116 (by decide) (fun c_37 => ?_) (fun c_37 => ?_)
    · skip
      rw [hQ]
      exact W.vret hx hb hr (fun t ht hW => ⟨⟨(), rfl, trivial, ⟨hh_34.rt (M1 := []) [] rfl ht, by rw [ht]; exact ⟨sn, ck, fs, fd, fo, dc, hh_34.2.2.1.sub (L1 := [(r0, 16, 41, .ref dd), (r0, 16, 42, .int dc), (r0, 16, 60, .ref co), (r0, 16, 61, .ref cs), (r0, 16, 46, .ref ol), (r0, 16, 47, .ref nw), (r0, 16, 71, .ref td)]) [8, 9, 10, 11, 12, 13, 14] rfl, hh_34.2.2.2.2.2.2.2.1.sub (L1 := [(cs, 207, 2, ca 1, fs)]) [8] rfl, hh_34.2.2.2.2.2.2.2.2.sub (L1 := [(jFs, jDY dC dI ca G0 none sn), (jF9, jVl dC dI G0 9 ck), ([(201, 0)], jQc dC dI (ca 4) dd 3 fd), ([(208, 0)], jQc dC dI (ca 4) co 2 fo)]) [0, 1, 2, 3] rfl, hp0⟩⟩⟩, by rw [ht]; try exact hh_34.1.1, fun q h9 hq => by rw [ht]; try exact hh_34.1.2.1 q h9 hq⟩) hh_34.1.2.2 dX14_open_135
    · skip
      exact absurd c_37 (by decide)
  · skip
    have c_36' : r_35.toInt ≠ 0 := jb_eq_n (rfl) ((by decide)) c_36
    have hs3 := (hr_35p_2 (by omega)).1
    refine lv_aload_n hx hb dX14_open_46 rfl (lv_at hl 4 rfl) ?_
    refine j7_read hx hb hown hK (C := RX14) (T := TX14) (N := 74) rfl hly_16_23 hlk_55 (hh_34.at 7 rfl) dX14_open_47 ?_
    refine lv_iload_n hx hb dX14_open_50 rfl (lv_at hl 2 rfl) ?_
    refine j7_ialdM hx hb hK hh_34 hB123 1 rfl (by decide) hg_xe (x := r_29.toInt) (rfl) (by omega) (j := 7) rfl dX14_open_51 (fun z_38 ez_38 (hz_38 : 0 ≤ z_38.toInt ∧ z_38.toInt ≤ 3100) => ?_)
    have hqz_38 : z_38.toInt = jSo fe (r_29.toInt) := by unfold jSo; rw [ez_38]
    refine lv_aload_n hx hb dX14_open_52 rfl (lv_at hl 4 rfl) ?_
    refine j7_read hx hb hown hK (C := RX14) (T := TX14) (N := 74) rfl hly_16_22 hlk_52 (hh_34.at 6 rfl) dX14_open_53 ?_
    refine lv_iload_n hx hb dX14_open_56 rfl (lv_at hl 2 rfl) ?_
    refine j7_ialdM hx hb hK hh_34 hB122 1 rfl (by decide) hg_xb (x := r_29.toInt) (rfl) (by omega) (j := 6) rfl dX14_open_57 (fun z_39 ez_39 (hz_39 : 0 ≤ z_39.toInt ∧ z_39.toInt ≤ 3100) => ?_)
    have hqz_39 : z_39.toInt = jSo fb (r_29.toInt) := by unfold jSo; rw [ez_39]
    refine lv_isub hx hb dX14_open_58 ?_
    refine lv_topi (fun z_40 ez_40 => ?_)
    have hz_40 : z_40.toInt = z_38.toInt - z_39.toInt := by rw [ez_40]; exact jb_isub2 (rfl) (rfl) (by omega)
    refine lv_iconst (v := 1) hx hb dX14_open_59 (by decide) ?_
    refine lv_bipush (v := 40) hx hb dX14_open_60 (by decide) ?_
    refine va_calli (A0 := jA base) (H0 := s.heap) (va_runS (As := [.int z_40, .int 1, .int 40]) (rest := []) ⟨hx, hb, hml, hown, hts⟩ (uX14_in l dC dI ca base B hB hAp G0 H_34 z_40 1 40) (va_cwS 3 hts (jgS (jWr_48 _ (List.mem_of_getElem? (i := 10) rfl)) (jWr_48 _ (List.mem_of_getElem? (i := 11) rfl)) (jWr_1 _ (List.mem_of_getElem? (i := 5) rfl)) (jWr_48 _ (List.mem_of_getElem? (i := 12) rfl))) rfl rfl rfl (by decide +kernel) ⟨by rw [← hR]; exact Nat.le_of_ble_eq_true rfl, by rw [← hR]; exact Nat.le_of_ble_eq_true rfl⟩) ⟨fun a U g mk q => by obtain ⟨q0, q1, q2, qK, q10, q11⟩ := q; exact ⟨q0, q1, q2, jG.calling g mk a qK, q10, q11⟩, fun U hU hW => ⟨rfl, hU, hh_34.2.1, hG.step hW hU hh_34.1, jP.nil, trivial⟩⟩ rfl rfl hl.1 rfl (lv_room (Nat.le_of_ble_eq_true rfl)) dX14_open_62 ⟨Nat.zero_le _, Nat.zero_le _⟩) hh_34.1 (fun q _ h => h) (fun q h => h) (fun r_42 u_41 t_41 H_41 locs_41 ht_41 hvm_41 hr_42 hb_41 hz_41 hk_41 hS_41 => ?_)
    rw [ht_41] at hb_41
    obtain ⟨hb_411, hb_412, hb_413, hb_414, hb_415⟩ := hb_41
    have hh_41 : jSt (dC, dI) B base G0 G0 EX14_open s.heap 0 0 [(r0, 16, 27, .ref pool_21), (r0, 16, 21, .ref nameTo_18), (r0, 16, 20, .ref nameFrom_15), (r0, 16, 19, .ref next_12), (r0, 16, 18, .ref heir_9), (r0, 16, 17, .ref sort_6), (r0, 16, 22, .ref xb), (r0, 16, 23, .ref xe), (r0, 16, 41, .ref dd), (r0, 16, 42, .int dc), (r0, 16, 60, .ref co), (r0, 16, 61, .ref cs), (r0, 16, 46, .ref ol), (r0, 16, 47, .ref nw), (r0, 16, 71, .ref td)] [(pool_21, 127, 3300, ca 1, f_mp_27), (nameTo_18, 121, 3100, ca 1, f_mt_26), (nameFrom_15, 120, 3100, ca 1, f_mf_25), (next_12, 119, 3100, ca 1, f_mx_24), (heir_9, 118, 3100, ca 1, f_mh_23), (sort_6, 117, 3100, ca 1, f_ms_22), (xb, 122, 3100, ca 1, fb), (xe, 123, 3100, ca 1, fe), (cs, 207, 2, ca 1, fs)] [(jFs, jDY dC dI ca G0 none sn), (jF9, jVl dC dI G0 9 ck), ([(201, 0)], jQc dC dI (ca 4) dd 3 fd), ([(208, 0)], jQc dC dI (ca 4) co 2 fo)] H_41 locs_41 := ((hh_34.call hb_411 hb_412 hb_413 hb_414 hS_41 rfl (L1 := [(r0, 16, 27, .ref pool_21), (r0, 16, 21, .ref nameTo_18), (r0, 16, 20, .ref nameFrom_15), (r0, 16, 19, .ref next_12), (r0, 16, 18, .ref heir_9), (r0, 16, 17, .ref sort_6), (r0, 16, 22, .ref xb), (r0, 16, 23, .ref xe), (r0, 16, 41, .ref dd), (r0, 16, 42, .int dc), (r0, 16, 60, .ref co), (r0, 16, 61, .ref cs), (r0, 16, 46, .ref ol), (r0, 16, 47, .ref nw), (r0, 16, 71, .ref td)]) [0, 1, 2, 3, 4, 5, 6, 7, 8, 9, 10, 11, 12, 13, 14] rfl rfl (M1 := [(pool_21, 127, 3300, ca 1, f_mp_27), (nameTo_18, 121, 3100, ca 1, f_mt_26), (nameFrom_15, 120, 3100, ca 1, f_mf_25), (next_12, 119, 3100, ca 1, f_mx_24), (heir_9, 118, 3100, ca 1, f_mh_23), (sort_6, 117, 3100, ca 1, f_ms_22), (xb, 122, 3100, ca 1, fb), (xe, 123, 3100, ca 1, fe), (cs, 207, 2, ca 1, fs)]) [0, 1, 2, 3, 4, 5, 6, 7, 8] rfl rfl (I1 := [(jFs, jDY dC dI ca G0 none sn), (jF9, jVl dC dI G0 9 ck), ([(201, 0)], jQc dC dI (ca 4) dd 3 fd), ([(208, 0)], jQc dC dI (ca 4) co 2 fo)]) [0, 1, 2, 3] rfl rfl).more hb_415)
    clear hh_34 ht_41 hvm_41 hz_41 hk_41 hS_41 hb_411 hb_412 hb_413 hb_414 hb_415
    obtain ⟨hr_42b, hr_42p⟩ := hr_42
    obtain ⟨hr_42p_0, hr_42p_1, hr_42p_2⟩ := hr_42p
    have hr_42' := jb_01 hr_42b
    refine lv_if_eq (tgt := 111) hx hb dX14_open_65 (by decide) (fun c_43 => ?_) (fun c_43 => ?_)
    · skip
      have c_43' : r_42.toInt = 0 := jb_eq (rfl) ((by decide)) c_43
      refine lv_iconst (v := 0) hx hb dX14_open_111 (by decide) ?_
      refine lv_istore (lv' := [(6, .int 0), (5, .int r_33), (4, .int r_31), (3, .int r_29), (2, .int r_3), (0, .ref r0), (1, .int a1)]) hx hb dX14_open_112 hl (by decide) rfl (fun ls hl => ?_)
      refine lv_iload hx hb dX14_open_114 (lv_at hl 0 rfl) ?_
      refine lv_if_eq (tgt := 135) hx hb dX14_open_116 (by decide) (fun c_44 => ?_) (fun c_44 => ?_)
      · skip
        rw [hQ]
        exact W.vret hx hb hr (fun t ht hW => ⟨⟨(), rfl, trivial, ⟨hh_41.rt (M1 := []) [] rfl ht, by rw [ht]; exact ⟨sn, ck, fs, fd, fo, dc, hh_41.2.2.1.sub (L1 := [(r0, 16, 41, .ref dd), (r0, 16, 42, .int dc), (r0, 16, 60, .ref co), (r0, 16, 61, .ref cs), (r0, 16, 46, .ref ol), (r0, 16, 47, .ref nw), (r0, 16, 71, .ref td)]) [8, 9, 10, 11, 12, 13, 14] rfl, hh_41.2.2.2.2.2.2.2.1.sub (L1 := [(cs, 207, 2, ca 1, fs)]) [8] rfl, hh_41.2.2.2.2.2.2.2.2.sub (L1 := [(jFs, jDY dC dI ca G0 none sn), (jF9, jVl dC dI G0 9 ck), ([(201, 0)], jQc dC dI (ca 4) dd 3 fd), ([(208, 0)], jQc dC dI (ca 4) co 2 fo)]) [0, 1, 2, 3] rfl, hp0⟩⟩⟩, by rw [ht]; try exact hh_41.1.1, fun q h9 hq => by rw [ht]; try exact hh_41.1.2.1 q h9 hq⟩) hh_41.1.2.2 dX14_open_135
      · skip
        exact absurd c_44 (by decide)
    · skip
      have c_43' : r_42.toInt ≠ 0 := jb_eq_n (rfl) ((by decide)) c_43
      refine lv_aload_n hx hb dX14_open_68 rfl (lv_at hl 4 rfl) ?_
      refine lv_iload hx hb dX14_open_69 (lv_at hl 1 rfl) ?_
      refine va_calli (A0 := jA base) (H0 := s.heap) (va_runV (As := [.int r_31]) (rest := []) ⟨hx, hb, hml, hown, hts⟩ (uX14_isWholeK l dC dI ca base B hB hAp hB16 hB117 hB124 G0 H_41 r0 r_31 sort_6 f_ms_22) (cwV 1 hts (jgV (jWr_56 _ (List.mem_of_getElem? (i := 11) rfl)) (jWr_56 _ (List.mem_of_getElem? (i := 12) rfl)) (jWr_56 _ (List.mem_of_getElem? (i := 13) rfl)) (jWr_1 _ (List.mem_of_getElem? (i := 5) rfl)) (jWr_56 _ (List.mem_of_getElem? (i := 14) rfl))) rfl rfl rfl (by decide +kernel) ⟨by rw [← hR]; exact Nat.le_of_ble_eq_true rfl, by rw [← hR]; exact Nat.le_of_ble_eq_true rfl⟩) ⟨fun a U g mk q => by obtain ⟨q0, q1, q2, qK, q10, q11, q12, q13, q14⟩ := q; exact ⟨q0, q1, q2, jG.calling g mk a qK, q10, q11, q12, q13, q14⟩, hh_41.recv (C := RX14) (T := TX14) (N := 74) hB16 rfl (by decide) hg_r0 hK, fun U hU hW => ⟨rfl, hU, hh_41.2.1, hG.step hW hU hh_41.1, hg_r0, hg_sort_6, (hh_41.2.2.1.sub (L1 := [(r0, 16, 17, .ref sort_6)]) [5] rfl), (hh_41.2.2.2.2.2.2.2.1.sub (L1 := [(sort_6, 117, 3100, ca 1, f_ms_22)]) [5] rfl), by first | omega | rfl | assumption | decide | exact Or.inl rfl | exact Or.inr rfl | (simp only; omega)⟩⟩ rfl rfl hl.1 rfl (lv_room (Nat.le_of_ble_eq_true rfl)) dX14_open_71 ⟨Nat.zero_le _, Nat.zero_le _⟩) hh_41.1 (fun q _ h => h) (fun q h => h) (fun r_46 u_45 t_45 H_45 locs_45 ht_45 hvm_45 hr_46 hb_45 hz_45 hk_45 hS_45 => ?_)
      rw [ht_45] at hb_45
      obtain ⟨hb_451, hb_452, hb_453, hb_454, hb_455⟩ := hb_45
      have hh_45 : jSt (dC, dI) B base G0 G0 EX14_open s.heap 0 0 [(r0, 16, 27, .ref pool_21), (r0, 16, 21, .ref nameTo_18), (r0, 16, 20, .ref nameFrom_15), (r0, 16, 19, .ref next_12), (r0, 16, 18, .ref heir_9), (r0, 16, 17, .ref sort_6), (r0, 16, 22, .ref xb), (r0, 16, 23, .ref xe), (r0, 16, 41, .ref dd), (r0, 16, 42, .int dc), (r0, 16, 60, .ref co), (r0, 16, 61, .ref cs), (r0, 16, 46, .ref ol), (r0, 16, 47, .ref nw), (r0, 16, 71, .ref td)] [(pool_21, 127, 3300, ca 1, f_mp_27), (nameTo_18, 121, 3100, ca 1, f_mt_26), (nameFrom_15, 120, 3100, ca 1, f_mf_25), (next_12, 119, 3100, ca 1, f_mx_24), (heir_9, 118, 3100, ca 1, f_mh_23), (sort_6, 117, 3100, ca 1, f_ms_22), (xb, 122, 3100, ca 1, fb), (xe, 123, 3100, ca 1, fe), (cs, 207, 2, ca 1, fs)] [(jFs, jDY dC dI ca G0 none sn), (jF9, jVl dC dI G0 9 ck), ([(201, 0)], jQc dC dI (ca 4) dd 3 fd), ([(208, 0)], jQc dC dI (ca 4) co 2 fo)] H_45 locs_45 := ((hh_41.call hb_451 hb_452 hb_453 hb_454 hS_45 rfl (L1 := [(r0, 16, 27, .ref pool_21), (r0, 16, 21, .ref nameTo_18), (r0, 16, 20, .ref nameFrom_15), (r0, 16, 19, .ref next_12), (r0, 16, 18, .ref heir_9), (r0, 16, 17, .ref sort_6), (r0, 16, 22, .ref xb), (r0, 16, 23, .ref xe), (r0, 16, 41, .ref dd), (r0, 16, 42, .int dc), (r0, 16, 60, .ref co), (r0, 16, 61, .ref cs), (r0, 16, 46, .ref ol), (r0, 16, 47, .ref nw), (r0, 16, 71, .ref td)]) [0, 1, 2, 3, 4, 5, 6, 7, 8, 9, 10, 11, 12, 13, 14] rfl rfl (M1 := [(pool_21, 127, 3300, ca 1, f_mp_27), (nameTo_18, 121, 3100, ca 1, f_mt_26), (nameFrom_15, 120, 3100, ca 1, f_mf_25), (next_12, 119, 3100, ca 1, f_mx_24), (heir_9, 118, 3100, ca 1, f_mh_23), (sort_6, 117, 3100, ca 1, f_ms_22), (xb, 122, 3100, ca 1, fb), (xe, 123, 3100, ca 1, fe), (cs, 207, 2, ca 1, fs)]) [0, 1, 2, 3, 4, 5, 6, 7, 8] rfl rfl (I1 := [(jFs, jDY dC dI ca G0 none sn), (jF9, jVl dC dI G0 9 ck), ([(201, 0)], jQc dC dI (ca 4) dd 3 fd), ([(208, 0)], jQc dC dI (ca 4) co 2 fo)]) [0, 1, 2, 3] rfl rfl).more hb_455)
      clear hh_41 ht_45 hvm_45 hz_45 hk_45 hS_45 hb_451 hb_452 hb_453 hb_454 hb_455
      obtain ⟨hr_46b, hr_46p⟩ := hr_46
      obtain ⟨hr_46p_0, hr_46p_1, hr_46p_2⟩ := hr_46p
      have hr_46' := jb_01 hr_46b
      refine lv_if_eq (tgt := 111) hx hb dX14_open_74 (by decide) (fun c_47 => ?_) (fun c_47 => ?_)
      · skip
        have c_47' : r_46.toInt = 0 := jb_eq (rfl) ((by decide)) c_47
        refine lv_iconst (v := 0) hx hb dX14_open_111 (by decide) ?_
        refine lv_istore (lv' := [(6, .int 0), (5, .int r_33), (4, .int r_31), (3, .int r_29), (2, .int r_3), (0, .ref r0), (1, .int a1)]) hx hb dX14_open_112 hl (by decide) rfl (fun ls hl => ?_)
        refine lv_iload hx hb dX14_open_114 (lv_at hl 0 rfl) ?_
        refine lv_if_eq (tgt := 135) hx hb dX14_open_116 (by decide) (fun c_48 => ?_) (fun c_48 => ?_)
        · skip
          rw [hQ]
          exact W.vret hx hb hr (fun t ht hW => ⟨⟨(), rfl, trivial, ⟨hh_45.rt (M1 := []) [] rfl ht, by rw [ht]; exact ⟨sn, ck, fs, fd, fo, dc, hh_45.2.2.1.sub (L1 := [(r0, 16, 41, .ref dd), (r0, 16, 42, .int dc), (r0, 16, 60, .ref co), (r0, 16, 61, .ref cs), (r0, 16, 46, .ref ol), (r0, 16, 47, .ref nw), (r0, 16, 71, .ref td)]) [8, 9, 10, 11, 12, 13, 14] rfl, hh_45.2.2.2.2.2.2.2.1.sub (L1 := [(cs, 207, 2, ca 1, fs)]) [8] rfl, hh_45.2.2.2.2.2.2.2.2.sub (L1 := [(jFs, jDY dC dI ca G0 none sn), (jF9, jVl dC dI G0 9 ck), ([(201, 0)], jQc dC dI (ca 4) dd 3 fd), ([(208, 0)], jQc dC dI (ca 4) co 2 fo)]) [0, 1, 2, 3] rfl, hp0⟩⟩⟩, by rw [ht]; try exact hh_45.1.1, fun q h9 hq => by rw [ht]; try exact hh_45.1.2.1 q h9 hq⟩) hh_45.1.2.2 dX14_open_135
        · skip
          exact absurd c_48 (by decide)
      · skip
        have c_47' : r_46.toInt ≠ 0 := jb_eq_n (rfl) ((by decide)) c_47
        have hs4 := (hr_46p_2 (by omega)).1
        refine lv_aload_n hx hb dX14_open_77 rfl (lv_at hl 4 rfl) ?_
        refine lv_iload hx hb dX14_open_78 (lv_at hl 0 rfl) ?_
        refine va_calli (A0 := jA base) (H0 := s.heap) (va_runV (As := [.int r_33]) (rest := []) ⟨hx, hb, hml, hown, hts⟩ (uX14_isStringK l dC dI ca base B hB hAp hB16 hB117 G0 H_45 r0 r_33 sort_6 f_ms_22) (cwV 1 hts (jgV (jWr_56 _ (List.mem_of_getElem? (i := 3) rfl)) (jWr_56 _ (List.mem_of_getElem? (i := 4) rfl)) (jWr_56 _ (List.mem_of_getElem? (i := 5) rfl)) (jWr_1 _ (List.mem_of_getElem? (i := 5) rfl)) (jWr_56 _ (List.mem_of_getElem? (i := 6) rfl))) rfl rfl rfl (by decide +kernel) ⟨by rw [← hR]; exact Nat.le_of_ble_eq_true rfl, by rw [← hR]; exact Nat.le_of_ble_eq_true rfl⟩) ⟨fun a U g mk q => by obtain ⟨q0, q1, q2, qK, q10, q11, q12, q13, q14⟩ := q; exact ⟨q0, q1, q2, jG.calling g mk a qK, q10, q11, q12, q13, q14⟩, hh_45.recv (C := RX14) (T := TX14) (N := 74) hB16 rfl (by decide) hg_r0 hK, fun U hU hW => ⟨rfl, hU, hh_45.2.1, hG.step hW hU hh_45.1, hg_r0, hg_sort_6, (hh_45.2.2.1.sub (L1 := [(r0, 16, 17, .ref sort_6)]) [5] rfl), (hh_45.2.2.2.2.2.2.2.1.sub (L1 := [(sort_6, 117, 3100, ca 1, f_ms_22)]) [5] rfl), by first | omega | rfl | assumption | decide | exact Or.inl rfl | exact Or.inr rfl | (simp only; omega)⟩⟩ rfl rfl hl.1 rfl (lv_room (Nat.le_of_ble_eq_true rfl)) dX14_open_80 ⟨Nat.zero_le _, Nat.zero_le _⟩) hh_45.1 (fun q _ h => h) (fun q h => h) (fun r_50 u_49 t_49 H_49 locs_49 ht_49 hvm_49 hr_50 hb_49 hz_49 hk_49 hS_49 => ?_)
        rw [ht_49] at hb_49
        obtain ⟨hb_491, hb_492, hb_493, hb_494, hb_495⟩ := hb_49
        have hh_49 : jSt (dC, dI) B base G0 G0 EX14_open s.heap 0 0 [(r0, 16, 27, .ref pool_21), (r0, 16, 21, .ref nameTo_18), (r0, 16, 20, .ref nameFrom_15), (r0, 16, 19, .ref next_12), (r0, 16, 18, .ref heir_9), (r0, 16, 17, .ref sort_6), (r0, 16, 22, .ref xb), (r0, 16, 23, .ref xe), (r0, 16, 41, .ref dd), (r0, 16, 42, .int dc), (r0, 16, 60, .ref co), (r0, 16, 61, .ref cs), (r0, 16, 46, .ref ol), (r0, 16, 47, .ref nw), (r0, 16, 71, .ref td)] [(pool_21, 127, 3300, ca 1, f_mp_27), (nameTo_18, 121, 3100, ca 1, f_mt_26), (nameFrom_15, 120, 3100, ca 1, f_mf_25), (next_12, 119, 3100, ca 1, f_mx_24), (heir_9, 118, 3100, ca 1, f_mh_23), (sort_6, 117, 3100, ca 1, f_ms_22), (xb, 122, 3100, ca 1, fb), (xe, 123, 3100, ca 1, fe), (cs, 207, 2, ca 1, fs)] [(jFs, jDY dC dI ca G0 none sn), (jF9, jVl dC dI G0 9 ck), ([(201, 0)], jQc dC dI (ca 4) dd 3 fd), ([(208, 0)], jQc dC dI (ca 4) co 2 fo)] H_49 locs_49 := ((hh_45.call hb_491 hb_492 hb_493 hb_494 hS_49 rfl (L1 := [(r0, 16, 27, .ref pool_21), (r0, 16, 21, .ref nameTo_18), (r0, 16, 20, .ref nameFrom_15), (r0, 16, 19, .ref next_12), (r0, 16, 18, .ref heir_9), (r0, 16, 17, .ref sort_6), (r0, 16, 22, .ref xb), (r0, 16, 23, .ref xe), (r0, 16, 41, .ref dd), (r0, 16, 42, .int dc), (r0, 16, 60, .ref co), (r0, 16, 61, .ref cs), (r0, 16, 46, .ref ol), (r0, 16, 47, .ref nw), (r0, 16, 71, .ref td)]) [0, 1, 2, 3, 4, 5, 6, 7, 8, 9, 10, 11, 12, 13, 14] rfl rfl (M1 := [(pool_21, 127, 3300, ca 1, f_mp_27), (nameTo_18, 121, 3100, ca 1, f_mt_26), (nameFrom_15, 120, 3100, ca 1, f_mf_25), (next_12, 119, 3100, ca 1, f_mx_24), (heir_9, 118, 3100, ca 1, f_mh_23), (sort_6, 117, 3100, ca 1, f_ms_22), (xb, 122, 3100, ca 1, fb), (xe, 123, 3100, ca 1, fe), (cs, 207, 2, ca 1, fs)]) [0, 1, 2, 3, 4, 5, 6, 7, 8] rfl rfl (I1 := [(jFs, jDY dC dI ca G0 none sn), (jF9, jVl dC dI G0 9 ck), ([(201, 0)], jQc dC dI (ca 4) dd 3 fd), ([(208, 0)], jQc dC dI (ca 4) co 2 fo)]) [0, 1, 2, 3] rfl rfl).more hb_495)
        clear hh_45 ht_49 hvm_49 hz_49 hk_49 hS_49 hb_491 hb_492 hb_493 hb_494 hb_495
        obtain ⟨hr_50b, hr_50p⟩ := hr_50
        obtain ⟨hr_50p_0, hr_50p_1, hr_50p_2⟩ := hr_50p
        have hr_50' := jb_01 hr_50b
        refine lv_if_eq (tgt := 111) hx hb dX14_open_83 (by decide) (fun c_51 => ?_) (fun c_51 => ?_)
        · skip
          have c_51' : r_50.toInt = 0 := jb_eq (rfl) ((by decide)) c_51
          refine lv_iconst (v := 0) hx hb dX14_open_111 (by decide) ?_
          refine lv_istore (lv' := [(6, .int 0), (5, .int r_33), (4, .int r_31), (3, .int r_29), (2, .int r_3), (0, .ref r0), (1, .int a1)]) hx hb dX14_open_112 hl (by decide) rfl (fun ls hl => ?_)
          refine lv_iload hx hb dX14_open_114 (lv_at hl 0 rfl) ?_
          refine lv_if_eq (tgt := 135) hx hb dX14_open_116 (by decide) (fun c_52 => ?_) (fun c_52 => ?_)
          · skip
            rw [hQ]
            exact W.vret hx hb hr (fun t ht hW => ⟨⟨(), rfl, trivial, ⟨hh_49.rt (M1 := []) [] rfl ht, by rw [ht]; exact ⟨sn, ck, fs, fd, fo, dc, hh_49.2.2.1.sub (L1 := [(r0, 16, 41, .ref dd), (r0, 16, 42, .int dc), (r0, 16, 60, .ref co), (r0, 16, 61, .ref cs), (r0, 16, 46, .ref ol), (r0, 16, 47, .ref nw), (r0, 16, 71, .ref td)]) [8, 9, 10, 11, 12, 13, 14] rfl, hh_49.2.2.2.2.2.2.2.1.sub (L1 := [(cs, 207, 2, ca 1, fs)]) [8] rfl, hh_49.2.2.2.2.2.2.2.2.sub (L1 := [(jFs, jDY dC dI ca G0 none sn), (jF9, jVl dC dI G0 9 ck), ([(201, 0)], jQc dC dI (ca 4) dd 3 fd), ([(208, 0)], jQc dC dI (ca 4) co 2 fo)]) [0, 1, 2, 3] rfl, hp0⟩⟩⟩, by rw [ht]; try exact hh_49.1.1, fun q h9 hq => by rw [ht]; try exact hh_49.1.2.1 q h9 hq⟩) hh_49.1.2.2 dX14_open_135
          · skip
            exact absurd c_52 (by decide)
        · skip
          have c_51' : r_50.toInt ≠ 0 := jb_eq_n (rfl) ((by decide)) c_51
          have hs5 := (hr_50p_2 (by omega)).1
          refine lv_aload_n hx hb dX14_open_86 rfl (lv_at hl 4 rfl) ?_
          refine j7_read hx hb hown hK (C := RX14) (T := TX14) (N := 74) rfl hly_16_23 hlk_55 (hh_49.at 7 rfl) dX14_open_87 ?_
          refine lv_iload hx hb dX14_open_90 (lv_at hl 0 rfl) ?_
          refine j7_ialdM hx hb hK hh_49 hB123 1 rfl (by decide) hg_xe (x := r_33.toInt) (rfl) (by omega) (j := 7) rfl dX14_open_92 (fun z_53 ez_53 (hz_53 : 0 ≤ z_53.toInt ∧ z_53.toInt ≤ 3100) => ?_)
          have hqz_53 : z_53.toInt = jSo fe (r_33.toInt) := by unfold jSo; rw [ez_53]
          refine lv_aload_n hx hb dX14_open_93 rfl (lv_at hl 4 rfl) ?_
          refine j7_read hx hb hown hK (C := RX14) (T := TX14) (N := 74) rfl hly_16_22 hlk_52 (hh_49.at 6 rfl) dX14_open_94 ?_
          refine lv_iload hx hb dX14_open_97 (lv_at hl 0 rfl) ?_
          refine j7_ialdM hx hb hK hh_49 hB122 1 rfl (by decide) hg_xb (x := r_33.toInt) (rfl) (by omega) (j := 6) rfl dX14_open_99 (fun z_54 ez_54 (hz_54 : 0 ≤ z_54.toInt ∧ z_54.toInt ≤ 3100) => ?_)
          have hqz_54 : z_54.toInt = jSo fb (r_33.toInt) := by unfold jSo; rw [ez_54]
          refine lv_isub hx hb dX14_open_100 ?_
          refine lv_topi (fun z_55 ez_55 => ?_)
          have hz_55 : z_55.toInt = z_53.toInt - z_54.toInt := by rw [ez_55]; exact jb_isub2 (rfl) (rfl) (by omega)
          refine lv_sipush (v := 1500) hx hb dX14_open_101 (by decide) ?_
          refine lv_icmp_gt (tgt := 111) hx hb dX14_open_104 (by decide) (fun c_56 => ?_) (fun c_56 => ?_)
          · skip
            have c_56' : z_55.toInt > 1500 := jb_gt (rfl) ((by decide)) c_56
            refine lv_iconst (v := 0) hx hb dX14_open_111 (by decide) ?_
            refine lv_istore (lv' := [(6, .int 0), (5, .int r_33), (4, .int r_31), (3, .int r_29), (2, .int r_3), (0, .ref r0), (1, .int a1)]) hx hb dX14_open_112 hl (by decide) rfl (fun ls hl => ?_)
            refine lv_iload hx hb dX14_open_114 (lv_at hl 0 rfl) ?_
            refine lv_if_eq (tgt := 135) hx hb dX14_open_116 (by decide) (fun c_57 => ?_) (fun c_57 => ?_)
            · skip
              rw [hQ]
              exact W.vret hx hb hr (fun t ht hW => ⟨⟨(), rfl, trivial, ⟨hh_49.rt (M1 := []) [] rfl ht, by rw [ht]; exact ⟨sn, ck, fs, fd, fo, dc, hh_49.2.2.1.sub (L1 := [(r0, 16, 41, .ref dd), (r0, 16, 42, .int dc), (r0, 16, 60, .ref co), (r0, 16, 61, .ref cs), (r0, 16, 46, .ref ol), (r0, 16, 47, .ref nw), (r0, 16, 71, .ref td)]) [8, 9, 10, 11, 12, 13, 14] rfl, hh_49.2.2.2.2.2.2.2.1.sub (L1 := [(cs, 207, 2, ca 1, fs)]) [8] rfl, hh_49.2.2.2.2.2.2.2.2.sub (L1 := [(jFs, jDY dC dI ca G0 none sn), (jF9, jVl dC dI G0 9 ck), ([(201, 0)], jQc dC dI (ca 4) dd 3 fd), ([(208, 0)], jQc dC dI (ca 4) co 2 fo)]) [0, 1, 2, 3] rfl, hp0⟩⟩⟩, by rw [ht]; try exact hh_49.1.1, fun q h9 hq => by rw [ht]; try exact hh_49.1.2.1 q h9 hq⟩) hh_49.1.2.2 dX14_open_135
            · skip
              exact absurd c_57 (by decide)
          · skip
            have c_56' : z_55.toInt ≤ 1500 := jb_gt_n (rfl) ((by decide)) c_56
            refine lv_iconst (v := 1) hx hb dX14_open_107 (by decide) ?_
            refine lv_goto (tgt := 112) hx hb dX14_open_108 (by decide) ?_
            refine lv_istore (lv' := [(6, .int 1), (5, .int r_33), (4, .int r_31), (3, .int r_29), (2, .int r_3), (0, .ref r0), (1, .int a1)]) hx hb dX14_open_112 hl (by decide) rfl (fun ls hl => ?_)
            refine lv_iload hx hb dX14_open_114 (lv_at hl 0 rfl) ?_
            refine lv_if_eq (tgt := 135) hx hb dX14_open_116 (by decide) (fun c_58 => ?_) (fun c_58 => ?_)
            · skip
              exact absurd c_58 (by decide)
            · skip
              refine lv_aload_n hx hb dX14_open_119 rfl (lv_at hl 5 rfl) ?_
              refine lv_iload_n hx hb dX14_open_120 rfl (lv_at hl 3 rfl) ?_
              refine j_callx (A0 := jA base) (H0 := s.heap) (va_runV (As := [.int r_29]) (rest := []) ⟨hx, hb, hml, hown, hts⟩ (uX14_documentOfK l dC dI ca base B hB hAp hB14 hB16 hB101 hB117 hB122 hB123 hB127 hB201 G0 H_49 r0 r_29 dd dc co cs ol nw td sn ck fd fo fs) (cwV 1 hts (jgV (jWr_57 _ (List.mem_of_getElem? (i := 6) rfl)) (jWr_57 _ (List.mem_of_getElem? (i := 7) rfl)) (jWr_57 _ (List.mem_of_getElem? (i := 8) rfl)) (jWr_1 _ (List.mem_of_getElem? (i := 5) rfl)) (jWr_57 _ (List.mem_of_getElem? (i := 9) rfl))) rfl rfl rfl (by decide +kernel) ⟨by rw [← hR]; exact Nat.le_of_ble_eq_true rfl, by rw [← hR]; exact Nat.le_of_ble_eq_true rfl⟩) ⟨fun a U g mk q => by obtain ⟨q0, q1, q2, qK, q10, q11, q12, q13, q14, q15, q16, q17, q18, q19, q20, q21⟩ := q; exact ⟨q0, q1, q2, jG.calling g mk a qK, (va_K.moved (Vm.Alike.refl U.vm) q10), q11, q12, q13, q14, q15, q16, q17, q18, q19, q20, q21⟩, hh_49.recv (C := RX14) (T := TX14) (N := 74) hB16 rfl (by decide) hg_r0 hK, fun U hU hW => ⟨rfl, hU, hh_49.2.1, hG.step hW hU hh_49.1, va_K.moved hW.alike hK2, hg_r0, hg_dd, hg_co, hg_cs, hg_ol, hg_nw, hg_td, (hh_49.2.2.1.sub (L1 := [(r0, 16, 41, .ref dd), (r0, 16, 42, .int dc), (r0, 16, 60, .ref co), (r0, 16, 61, .ref cs), (r0, 16, 46, .ref ol), (r0, 16, 47, .ref nw), (r0, 16, 71, .ref td)]) [8, 9, 10, 11, 12, 13, 14] rfl), (hh_49.2.2.2.2.2.2.2.1.sub (L1 := [(cs, 207, 2, ca 1, fs)]) [8] rfl), (hh_49.2.2.2.2.2.2.2.2.sub (L1 := [(jFs, jDY dC dI ca G0 none sn), (jF9, jVl dC dI G0 9 ck), ([(201, 0)], jQc dC dI (ca 4) dd 3 fd), ([(208, 0)], jQc dC dI (ca 4) co 2 fo)]) [0, 1, 2, 3] rfl), by first | omega | (refine ⟨?_, ?_⟩ <;> (first | omega | rfl | assumption | decide | exact Or.inl rfl | exact Or.inr rfl | (simp only; omega)))⟩⟩ rfl rfl hl.1 rfl (lv_room (Nat.le_of_ble_eq_true rfl)) dX14_open_121 ⟨Nat.zero_le _, Nat.zero_le _⟩) hh_49.1 (fun q _ h => h) (fun q h => h) (fun r_60 u_59 t_59 H_59 locs_59 ht_59 hvm_59 hr_60 hb_59 hz_59 hk_59 hS_59 => ?_)
              rw [ht_59] at hb_59
              obtain ⟨hb_591, hb_592, hb_593, hb_594, hb_595⟩ := hb_59
              have hh_59 : jSt (dC, dI) B base G0 G0 EX14_open s.heap 0 0 [(r0, 16, 27, .ref pool_21), (r0, 16, 21, .ref nameTo_18), (r0, 16, 20, .ref nameFrom_15), (r0, 16, 19, .ref next_12), (r0, 16, 18, .ref heir_9), (r0, 16, 17, .ref sort_6), (r0, 16, 22, .ref xb), (r0, 16, 23, .ref xe), (r0, 16, 41, .ref dd), (r0, 16, 42, .int dc), (r0, 16, 60, .ref co), (r0, 16, 61, .ref cs), (r0, 16, 46, .ref ol), (r0, 16, 47, .ref nw), (r0, 16, 71, .ref td)] [(pool_21, 127, 3300, ca 1, f_mp_27), (nameTo_18, 121, 3100, ca 1, f_mt_26), (nameFrom_15, 120, 3100, ca 1, f_mf_25), (next_12, 119, 3100, ca 1, f_mx_24), (heir_9, 118, 3100, ca 1, f_mh_23), (sort_6, 117, 3100, ca 1, f_ms_22), (xb, 122, 3100, ca 1, fb), (xe, 123, 3100, ca 1, fe), (cs, 207, 2, ca 1, fs)] [(jFs, jDY dC dI ca G0 none sn), (jF9, jVl dC dI G0 9 ck), ([(201, 0)], jQc dC dI (ca 4) dd 3 fd), ([(208, 0)], jQc dC dI (ca 4) co 2 fo)] H_59 locs_59 := ((hh_49.call hb_591 hb_592 hb_593 hb_594 hS_59 rfl (L1 := [(r0, 16, 27, .ref pool_21), (r0, 16, 21, .ref nameTo_18), (r0, 16, 20, .ref nameFrom_15), (r0, 16, 19, .ref next_12), (r0, 16, 18, .ref heir_9), (r0, 16, 17, .ref sort_6), (r0, 16, 22, .ref xb), (r0, 16, 23, .ref xe), (r0, 16, 41, .ref dd), (r0, 16, 42, .int dc), (r0, 16, 60, .ref co), (r0, 16, 61, .ref cs), (r0, 16, 46, .ref ol), (r0, 16, 47, .ref nw), (r0, 16, 71, .ref td)]) [0, 1, 2, 3, 4, 5, 6, 7, 8, 9, 10, 11, 12, 13, 14] rfl rfl (M1 := [(pool_21, 127, 3300, ca 1, f_mp_27), (nameTo_18, 121, 3100, ca 1, f_mt_26), (nameFrom_15, 120, 3100, ca 1, f_mf_25), (next_12, 119, 3100, ca 1, f_mx_24), (heir_9, 118, 3100, ca 1, f_mh_23), (sort_6, 117, 3100, ca 1, f_ms_22), (xb, 122, 3100, ca 1, fb), (xe, 123, 3100, ca 1, fe), (cs, 207, 2, ca 1, fs)]) [0, 1, 2, 3, 4, 5, 6, 7, 8] rfl rfl (I1 := [(jFs, jDY dC dI ca G0 none sn), (jF9, jVl dC dI G0 9 ck), ([(201, 0)], jQc dC dI (ca 4) dd 3 fd), ([(208, 0)], jQc dC dI (ca 4) co 2 fo)]) [0, 1, 2, 3] rfl rfl).more hb_595)
              clear hh_49 ht_59 hvm_59 hz_59 hk_59 hS_59 hb_591 hb_592 hb_593 hb_594 hb_595
              rcases hr_60 with rfl | ⟨ret_61, rfl, hg_ret_61, hp_ret_61⟩
              · skip
                refine lv_ifnonnullN hx hb dX14_open_124 ?_
                refine lv_aload_n hx hb dX14_open_127 rfl (lv_at hl 5 rfl) ?_
                refine j7_read hx hb hown hK (C := RX14) (T := TX14) (N := 74) rfl hly_16_42 hlk_505 (hh_59.at 9 rfl) dX14_open_128 ?_
                refine lv_iconst (v := 3) hx hb dX14_open_131 (by decide) ?_
                refine lv_icmp_ne (tgt := 136) hx hb dX14_open_132 (by decide) (fun c_62 => ?_) (fun c_62 => ?_)
                · skip
                  have c_62' : dc.toInt ≠ 3 := jb_ne (rfl) ((by decide)) c_62
                  refine lv_aload_n hx hb dX14_open_136 rfl (lv_at hl 5 rfl) ?_
                  refine j7_read hx hb hown hK (C := RX14) (T := TX14) (N := 74) rfl hly_16_41 hlk_74 (hh_59.at 8 rfl) dX14_open_137 ?_
                  refine lv_aload_n hx hb dX14_open_140 rfl (lv_at hl 5 rfl) ?_
                  refine j7_read hx hb hown hK (C := RX14) (T := TX14) (N := 74) rfl hly_16_42 hlk_505 (hh_59.at 9 rfl) dX14_open_141 ?_
                  refine j7_qaldI hx hb hK2 hh_59 hB201 0 rfl (by decide) hg_dd (x := dc.toInt) (rfl) (by omega) (hh_59.iv 2 rfl) dX14_open_144 (fun o_63 ho_63 heo_63 => ?_)
                  obtain ⟨el_64, rfl, hg_el_64⟩ := ho_63
                  simp only [va_rf]
                  refine lv_astore (lv' := [(7, .ref el_64), (6, .int 1), (5, .int r_33), (4, .int r_31), (3, .int r_29), (2, .int r_3), (0, .ref r0), (1, .int a1)]) hx hb dX14_open_145 hl (by decide) rfl (fun ls hl => ?_)
                  refine lv_aload_n hx hb dX14_open_147 rfl (lv_at hl 6 rfl) ?_
                  refine lv_dup hx hb dX14_open_148 rfl ?_
                  refine j7_read hx hb hown hK (C := RX14) (T := TX14) (N := 74) rfl hly_16_42 hlk_505 (hh_59.at 9 rfl) dX14_open_149 ?_
                  refine lv_iconst (v := 1) hx hb dX14_open_152 (by decide) ?_
                  refine lv_iadd hx hb dX14_open_153 ?_
                  refine lv_topi (fun z_65 ez_65 => ?_)
                  have hz_65 : z_65.toInt = dc.toInt + 1 := by rw [ez_65]; exact jb_iadd2 (rfl) ((by decide)) (by omega)
                  refine j7_put hx hb hown hK hh_59 hB hAp hB16 (C := RX14) (T := TX14) (N := 74) rfl (by decide) hg_r0 (i := 42) (by decide) hly_16_42 rfl hlk_505 rfl (ty := .int) (v := .int z_65) (by decide +kernel) rfl rfl (⟨_, rfl, by omega, by omega⟩) rfl (L1 := [(r0, 16, 27, .ref pool_21), (r0, 16, 21, .ref nameTo_18), (r0, 16, 20, .ref nameFrom_15), (r0, 16, 19, .ref next_12), (r0, 16, 18, .ref heir_9), (r0, 16, 17, .ref sort_6), (r0, 16, 22, .ref xb), (r0, 16, 23, .ref xe), (r0, 16, 41, .ref dd), (r0, 16, 60, .ref co), (r0, 16, 61, .ref cs), (r0, 16, 46, .ref ol), (r0, 16, 47, .ref nw), (r0, 16, 71, .ref td)]) [0, 1, 2, 3, 4, 5, 6, 7, 8, 10, 11, 12, 13, 14] rfl rfl rfl dX14_open_154 (fun H_66 locs_66 hh_66 => ?_)
                  clear hh_59
                  refine lv_aload hx hb dX14_open_157 (lv_at hl 0 rfl) ?_
                  refine lv_aload_n hx hb dX14_open_159 rfl (lv_at hl 6 rfl) ?_
                  refine j7_read hx hb hown hK (C := RX14) (T := TX14) (N := 74) rfl hly_16_23 hlk_55 (hh_66.at 8 rfl) dX14_open_160 ?_
                  refine lv_iload_n hx hb dX14_open_163 rfl (lv_at hl 4 rfl) ?_
                  refine j7_ialdM hx hb hK hh_66 hB123 1 rfl (by decide) hg_xe (x := r_29.toInt) (rfl) (by omega) (j := 7) rfl dX14_open_164 (fun z_67 ez_67 (hz_67 : 0 ≤ z_67.toInt ∧ z_67.toInt ≤ 3100) => ?_)
                  have hqz_67 : z_67.toInt = jSo fe (r_29.toInt) := by unfold jSo; rw [ez_67]
                  refine lv_aload_n hx hb dX14_open_165 rfl (lv_at hl 6 rfl) ?_
                  refine j7_read hx hb hown hK (C := RX14) (T := TX14) (N := 74) rfl hly_16_22 hlk_52 (hh_66.at 7 rfl) dX14_open_166 ?_
                  refine lv_iload_n hx hb dX14_open_169 rfl (lv_at hl 4 rfl) ?_
                  refine j7_ialdM hx hb hK hh_66 hB122 1 rfl (by decide) hg_xb (x := r_29.toInt) (rfl) (by omega) (j := 6) rfl dX14_open_170 (fun z_68 ez_68 (hz_68 : 0 ≤ z_68.toInt ∧ z_68.toInt ≤ 3100) => ?_)
                  have hqz_68 : z_68.toInt = jSo fb (r_29.toInt) := by unfold jSo; rw [ez_68]
                  refine lv_isub hx hb dX14_open_171 ?_
                  refine lv_topi (fun z_69 ez_69 => ?_)
                  have hz_69 : z_69.toInt = z_67.toInt - z_68.toInt := by rw [ez_69]; exact jb_isub2 (rfl) (rfl) (by omega)
                  refine j7_putN hx hb hown hK hh_66 hB hAp hB14 (C := RX12) (T := TX12) (N := 11) rfl (by decide) hg_el_64 (i := 1) (by decide) hly_14_1 rfl hlk_508 rfl (ty := .int) (v := .int z_69) (by decide +kernel) rfl rfl (⟨_, rfl, by omega, by omega⟩) rfl (L1 := [(r0, 16, 42, .int z_65), (r0, 16, 27, .ref pool_21), (r0, 16, 21, .ref nameTo_18), (r0, 16, 20, .ref nameFrom_15), (r0, 16, 19, .ref next_12), (r0, 16, 18, .ref heir_9), (r0, 16, 17, .ref sort_6), (r0, 16, 22, .ref xb), (r0, 16, 23, .ref xe), (r0, 16, 41, .ref dd), (r0, 16, 60, .ref co), (r0, 16, 61, .ref cs), (r0, 16, 46, .ref ol), (r0, 16, 47, .ref nw), (r0, 16, 71, .ref td)]) [0, 1, 2, 3, 4, 5, 6, 7, 8, 9, 10, 11, 12, 13, 14] rfl rfl rfl dX14_open_172 (fun H_70 locs_70 hh_70 => ?_)
                  clear hh_66
                  refine lv_iconst (v := 0) hx hb dX14_open_175 (by decide) ?_
                  refine lv_istore (lv' := [(8, .int 0), (7, .ref el_64), (6, .int 1), (5, .int r_33), (4, .int r_31), (3, .int r_29), (2, .int r_3), (0, .ref r0), (1, .int a1)]) hx hb dX14_open_176 hl (by decide) rfl (fun ls hl => ?_)
                  have L178 : ∀ (N : Nat) (v8_71 : Int32) (H_71 : Heap) (locs_71 : List Loc), jSt (dC, dI) B base G0 G0 EX14_open s.heap 0 0 [(el_64, 14, 1, .int z_69), (r0, 16, 42, .int z_65), (r0, 16, 27, .ref pool_21), (r0, 16, 21, .ref nameTo_18), (r0, 16, 20, .ref nameFrom_15), (r0, 16, 19, .ref next_12), (r0, 16, 18, .ref heir_9), (r0, 16, 17, .ref sort_6), (r0, 16, 22, .ref xb), (r0, 16, 23, .ref xe), (r0, 16, 41, .ref dd), (r0, 16, 60, .ref co), (r0, 16, 61, .ref cs), (r0, 16, 46, .ref ol), (r0, 16, 47, .ref nw), (r0, 16, 71, .ref td)] [(pool_21, 127, 3300, ca 1, f_mp_27), (nameTo_18, 121, 3100, ca 1, f_mt_26), (nameFrom_15, 120, 3100, ca 1, f_mf_25), (next_12, 119, 3100, ca 1, f_mx_24), (heir_9, 118, 3100, ca 1, f_mh_23), (sort_6, 117, 3100, ca 1, f_ms_22), (xb, 122, 3100, ca 1, fb), (xe, 123, 3100, ca 1, fe), (cs, 207, 2, ca 1, fs)] [(jFs, jDY dC dI ca G0 none sn), (jF9, jVl dC dI G0 9 ck), ([(201, 0)], jQc dC dI (ca 4) dd 3 fd), ([(208, 0)], jQc dC dI (ca 4) co 2 fo)] H_71 locs_71 → (0 ≤ v8_71.toInt ∧ v8_71.toInt ≤ 40) → (40 - v8_71.toInt : Int) < N → ∀ ls : Array Slot, lv_has ls 9 [(0, .ref r0), (1, .int a1), (2, .int r_3), (3, .int r_29), (4, .int r_31), (5, .int r_33), (6, .int 1), (7, .ref el_64), (8, .int v8_71)] → W p l e R s m ([.ref r0, .int a1] : List Value).toArray below meth c H_71 locs_71 0 0 Q (F0 m 178 ls []) := by
                    intro N
                    induction N with
                    | zero => intro v8_71 H_71 locs_71 hh_71  hi_71 hm; exact absurd hm (by omega)
                    | succ N L178 =>
                      intro v8_71 H_71 locs_71 hh_71  hi_71 hm_71 ls hl
                      obtain ⟨hi_71_0, hi_71_1⟩ := hi_71
                      refine lv_iload hx hb dX14_open_178 (lv_at hl 8 rfl) ?_
                      refine lv_aload hx hb dX14_open_180 (lv_at hl 7 rfl) ?_
                      refine j7_readN hx hb hown hK (C := RX12) (T := TX12) (N := 11) rfl hly_14_1 hlk_508 (hh_71.at 0 rfl) dX14_open_182 ?_
                      refine lv_icmp_ge (tgt := 216) hx hb dX14_open_185 (by decide) (fun c_72 => ?_) (fun c_72 => ?_)
                      · skip
                        have c_72' : v8_71.toInt ≥ z_69.toInt := jb_ge (rfl) (rfl) c_72
                        refine lv_aload hx hb dX14_open_216 (lv_at hl 7 rfl) ?_
                        refine lv_aload_n hx hb dX14_open_218 rfl (lv_at hl 0 rfl) ?_
                        obtain ⟨v_73, hv_73, hh_74⟩ := hh_71.pin (C := RX14) (T := TX14) (N := 74) hB16 rfl (by decide) hg_r0 (i := 25) (by decide) rfl
                        clear hh_71
                        obtain ⟨ints_75, rfl, hg_ints_75⟩ := hv_73
                        refine j7_read hx hb hown hK (C := RX14) (T := TX14) (N := 74) rfl hly_16_25 hlk_62 (hh_74.at 0 rfl) dX14_open_219 ?_
                        refine lv_iload hx hb dX14_open_222 (lv_at hl 4 rfl) ?_
                        refine j7_iald hx hb hK hh_74 hB125 1 rfl (by decide) hg_ints_75 (x := r_31.toInt) (rfl) (by omega) dX14_open_224 (fun z_76 (hz_76 : True) => ?_)
                        refine j7_putN hx hb hown hK hh_74 hB hAp hB14 (C := RX12) (T := TX12) (N := 11) rfl (by decide) hg_el_64 (i := 2) (by decide) hly_14_2 rfl hlk_524 rfl (ty := .int) (v := .int z_76) (by decide +kernel) rfl rfl (⟨_, rfl⟩) rfl (L1 := [(r0, 16, 25, .ref ints_75), (el_64, 14, 1, .int z_69), (r0, 16, 42, .int z_65), (r0, 16, 27, .ref pool_21), (r0, 16, 21, .ref nameTo_18), (r0, 16, 20, .ref nameFrom_15), (r0, 16, 19, .ref next_12), (r0, 16, 18, .ref heir_9), (r0, 16, 17, .ref sort_6), (r0, 16, 22, .ref xb), (r0, 16, 23, .ref xe), (r0, 16, 41, .ref dd), (r0, 16, 60, .ref co), (r0, 16, 61, .ref cs), (r0, 16, 46, .ref ol), (r0, 16, 47, .ref nw), (r0, 16, 71, .ref td)]) [0, 1, 2, 3, 4, 5, 6, 7, 8, 9, 10, 11, 12, 13, 14, 15, 16] rfl rfl rfl dX14_open_225 (fun H_77 locs_77 hh_77 => ?_)
                        clear hh_74
                        have hle := hp2 r_33.toInt (by omega) (by omega)
                        refine lv_aload hx hb dX14_open_228 (lv_at hl 7 rfl) ?_
                        refine lv_aload_n hx hb dX14_open_230 rfl (lv_at hl 0 rfl) ?_
                        refine j7_read hx hb hown hK (C := RX14) (T := TX14) (N := 74) rfl hly_16_23 hlk_55 (hh_77.at 11 rfl) dX14_open_231 ?_
                        refine lv_iload hx hb dX14_open_234 (lv_at hl 5 rfl) ?_
                        refine j7_ialdM hx hb hK hh_77 hB123 1 rfl (by decide) hg_xe (x := r_33.toInt) (rfl) (by omega) (j := 7) rfl dX14_open_236 (fun z_78 ez_78 (hz_78 : 0 ≤ z_78.toInt ∧ z_78.toInt ≤ 3100) => ?_)
                        have hqz_78 : z_78.toInt = jSo fe (r_33.toInt) := by unfold jSo; rw [ez_78]
                        refine lv_aload_n hx hb dX14_open_237 rfl (lv_at hl 0 rfl) ?_
                        refine j7_read hx hb hown hK (C := RX14) (T := TX14) (N := 74) rfl hly_16_22 hlk_52 (hh_77.at 10 rfl) dX14_open_238 ?_
                        refine lv_iload hx hb dX14_open_241 (lv_at hl 5 rfl) ?_
                        refine j7_ialdM hx hb hK hh_77 hB122 1 rfl (by decide) hg_xb (x := r_33.toInt) (rfl) (by omega) (j := 6) rfl dX14_open_243 (fun z_79 ez_79 (hz_79 : 0 ≤ z_79.toInt ∧ z_79.toInt ≤ 3100) => ?_)
                        have hqz_79 : z_79.toInt = jSo fb (r_33.toInt) := by unfold jSo; rw [ez_79]
                        refine lv_isub hx hb dX14_open_244 ?_
                        refine lv_topi (fun z_80 ez_80 => ?_)
                        have hz_80 : z_80.toInt = z_78.toInt - z_79.toInt := by rw [ez_80]; exact jb_isub2 (rfl) (rfl) (by omega)
                        refine j7_putN hx hb hown hK hh_77 hB hAp hB14 (C := RX12) (T := TX12) (N := 11) rfl (by decide) hg_el_64 (i := 4) (by decide) hly_14_4 rfl hlk_526 rfl (ty := .int) (v := .int z_80) (by decide +kernel) rfl rfl (⟨_, rfl, by omega, by omega⟩) rfl (L1 := [(el_64, 14, 2, .int z_76), (r0, 16, 25, .ref ints_75), (el_64, 14, 1, .int z_69), (r0, 16, 42, .int z_65), (r0, 16, 27, .ref pool_21), (r0, 16, 21, .ref nameTo_18), (r0, 16, 20, .ref nameFrom_15), (r0, 16, 19, .ref next_12), (r0, 16, 18, .ref heir_9), (r0, 16, 17, .ref sort_6), (r0, 16, 22, .ref xb), (r0, 16, 23, .ref xe), (r0, 16, 41, .ref dd), (r0, 16, 60, .ref co), (r0, 16, 61, .ref cs), (r0, 16, 46, .ref ol), (r0, 16, 47, .ref nw), (r0, 16, 71, .ref td)]) [0, 1, 2, 3, 4, 5, 6, 7, 8, 9, 10, 11, 12, 13, 14, 15, 16, 17] rfl rfl rfl dX14_open_245 (fun H_81 locs_81 hh_81 => ?_)
                        clear hh_77
                        refine lv_iconst (v := 0) hx hb dX14_open_248 (by decide) ?_
                        refine lv_istore (lv' := [(8, .int 0), (0, .ref r0), (1, .int a1), (2, .int r_3), (3, .int r_29), (4, .int r_31), (5, .int r_33), (6, .int 1), (7, .ref el_64)]) hx hb dX14_open_249 hl (by decide) rfl (fun ls hl => ?_)
                        have L251 : ∀ (N : Nat) (v8_82 : Int32) (H_82 : Heap) (locs_82 : List Loc), jSt (dC, dI) B base G0 G0 EX14_open s.heap 0 0 [(el_64, 14, 4, .int z_80), (el_64, 14, 2, .int z_76), (el_64, 14, 1, .int z_69), (r0, 16, 42, .int z_65), (r0, 16, 27, .ref pool_21), (r0, 16, 21, .ref nameTo_18), (r0, 16, 20, .ref nameFrom_15), (r0, 16, 19, .ref next_12), (r0, 16, 18, .ref heir_9), (r0, 16, 17, .ref sort_6), (r0, 16, 22, .ref xb), (r0, 16, 23, .ref xe), (r0, 16, 41, .ref dd), (r0, 16, 60, .ref co), (r0, 16, 61, .ref cs), (r0, 16, 46, .ref ol), (r0, 16, 47, .ref nw), (r0, 16, 71, .ref td)] [(pool_21, 127, 3300, ca 1, f_mp_27), (nameTo_18, 121, 3100, ca 1, f_mt_26), (nameFrom_15, 120, 3100, ca 1, f_mf_25), (next_12, 119, 3100, ca 1, f_mx_24), (heir_9, 118, 3100, ca 1, f_mh_23), (sort_6, 117, 3100, ca 1, f_ms_22), (xb, 122, 3100, ca 1, fb), (xe, 123, 3100, ca 1, fe), (cs, 207, 2, ca 1, fs)] [(jFs, jDY dC dI ca G0 none sn), (jF9, jVl dC dI G0 9 ck), ([(201, 0)], jQc dC dI (ca 4) dd 3 fd), ([(208, 0)], jQc dC dI (ca 4) co 2 fo)] H_82 locs_82 → (0 ≤ v8_82.toInt ∧ v8_82.toInt ≤ 1500) → (1500 - v8_82.toInt : Int) < N → ∀ ls : Array Slot, lv_has ls 9 [(0, .ref r0), (1, .int a1), (2, .int r_3), (3, .int r_29), (4, .int r_31), (5, .int r_33), (6, .int 1), (7, .ref el_64), (8, .int v8_82)] → W p l e R s m ([.ref r0, .int a1] : List Value).toArray below meth c H_82 locs_82 0 0 Q (F0 m 251 ls []) := by
                          intro N
                          induction N with
                          | zero => intro v8_82 H_82 locs_82 hh_82  hi_82 hm; exact absurd hm (by omega)
                          | succ N L251 =>
                            intro v8_82 H_82 locs_82 hh_82  hi_82 hm_82 ls hl
                            obtain ⟨hi_82_0, hi_82_1⟩ := hi_82
                            refine lv_iload hx hb dX14_open_251 (lv_at hl 8 rfl) ?_
                            refine lv_aload hx hb dX14_open_253 (lv_at hl 7 rfl) ?_
                            refine j7_readN hx hb hown hK (C := RX12) (T := TX12) (N := 11) rfl hly_14_4 hlk_526 (hh_82.at 0 rfl) dX14_open_255 ?_
                            refine lv_icmp_ge (tgt := 290) hx hb dX14_open_258 (by decide) (fun c_83 => ?_) (fun c_83 => ?_)
                            · skip
                              have c_83' : v8_82.toInt ≥ z_80.toInt := jb_ge (rfl) (rfl) c_83
                              refine lv_aload hx hb dX14_open_290 (lv_at hl 7 rfl) ?_
                              refine lv_iconst (v := 0) hx hb dX14_open_292 (by decide) ?_
                              have hd_85 := hh_82.iv 1 rfl
                              have hh_86 := hh_82.sub (L1 := [(el_64, 14, 4, .int z_80), (el_64, 14, 2, .int z_76), (el_64, 14, 1, .int z_69), (r0, 16, 42, .int z_65), (r0, 16, 27, .ref pool_21), (r0, 16, 21, .ref nameTo_18), (r0, 16, 20, .ref nameFrom_15), (r0, 16, 19, .ref next_12), (r0, 16, 18, .ref heir_9), (r0, 16, 17, .ref sort_6), (r0, 16, 22, .ref xb), (r0, 16, 23, .ref xe), (r0, 16, 41, .ref dd), (r0, 16, 60, .ref co), (r0, 16, 61, .ref cs), (r0, 16, 46, .ref ol), (r0, 16, 47, .ref nw), (r0, 16, 71, .ref td)]) [0, 1, 2, 3, 4, 5, 6, 7, 8, 9, 10, 11, 12, 13, 14, 15, 16, 17] rfl (M1 := [(pool_21, 127, 3300, ca 1, f_mp_27), (nameTo_18, 121, 3100, ca 1, f_mt_26), (nameFrom_15, 120, 3100, ca 1, f_mf_25), (next_12, 119, 3100, ca 1, f_mx_24), (heir_9, 118, 3100, ca 1, f_mh_23), (sort_6, 117, 3100, ca 1, f_ms_22), (xb, 122, 3100, ca 1, fb), (xe, 123, 3100, ca 1, fe), (cs, 207, 2, ca 1, fs)]) [0, 1, 2, 3, 4, 5, 6, 7, 8] rfl (I1 := [(jFs, jDY dC dI ca G0 none sn), ([(201, 0)], jQc dC dI (ca 4) dd 3 fd), ([(208, 0)], jQc dC dI (ca 4) co 2 fo)]) [0, 2, 3] rfl
                              clear hh_82
                              refine j7_putNX hx hb hown hK hh_86 hB hAp hB14 (C := RX12) (T := TX12) (N := 11) rfl (by decide) hg_el_64 (i := 9) (by decide) hly_14_9 rfl hlk_531 rfl (ty := .int) (v := .int 0) (by decide +kernel) rfl rfl (⟨_, rfl, by omega, by omega⟩) rfl (L1 := [(el_64, 14, 4, .int z_80), (el_64, 14, 2, .int z_76), (el_64, 14, 1, .int z_69), (r0, 16, 42, .int z_65), (r0, 16, 27, .ref pool_21), (r0, 16, 21, .ref nameTo_18), (r0, 16, 20, .ref nameFrom_15), (r0, 16, 19, .ref next_12), (r0, 16, 18, .ref heir_9), (r0, 16, 17, .ref sort_6), (r0, 16, 22, .ref xb), (r0, 16, 23, .ref xe), (r0, 16, 41, .ref dd), (r0, 16, 60, .ref co), (r0, 16, 61, .ref cs), (r0, 16, 46, .ref ol), (r0, 16, 47, .ref nw), (r0, 16, 71, .ref td)]) [0, 1, 2, 3, 4, 5, 6, 7, 8, 9, 10, 11, 12, 13, 14, 15, 16, 17] rfl rfl rfl dX14_open_293 (fun H_84 locs_84 hr_84 hf_84 hh_84 => ?_)
                              clear hh_86
                              have hd_85n := jVl.put hd_85 hr_84 (hh_84.at 0 rfl)
                              have hh_87 := hh_84.addI (jVl.ie hd_85n)
                              clear hh_84
                              clear hd_85 hd_85n hr_84 hf_84
                              refine lv_aload hx hb dX14_open_296 (lv_at hl 7 rfl) ?_
                              have hd_88 := jDY.less (hh_87.iv 1 rfl) el_64
                              have hh_89 := hh_87.sub (L1 := [(el_64, 14, 9, .int 0), (el_64, 14, 4, .int z_80), (el_64, 14, 2, .int z_76), (el_64, 14, 1, .int z_69), (r0, 16, 42, .int z_65), (r0, 16, 27, .ref pool_21), (r0, 16, 21, .ref nameTo_18), (r0, 16, 20, .ref nameFrom_15), (r0, 16, 19, .ref next_12), (r0, 16, 18, .ref heir_9), (r0, 16, 17, .ref sort_6), (r0, 16, 22, .ref xb), (r0, 16, 23, .ref xe), (r0, 16, 41, .ref dd), (r0, 16, 60, .ref co), (r0, 16, 61, .ref cs), (r0, 16, 46, .ref ol), (r0, 16, 47, .ref nw), (r0, 16, 71, .ref td)]) [0, 1, 2, 3, 4, 5, 6, 7, 8, 9, 10, 11, 12, 13, 14, 15, 16, 17, 18] rfl (M1 := [(pool_21, 127, 3300, ca 1, f_mp_27), (nameTo_18, 121, 3100, ca 1, f_mt_26), (nameFrom_15, 120, 3100, ca 1, f_mf_25), (next_12, 119, 3100, ca 1, f_mx_24), (heir_9, 118, 3100, ca 1, f_mh_23), (sort_6, 117, 3100, ca 1, f_ms_22), (xb, 122, 3100, ca 1, fb), (xe, 123, 3100, ca 1, fe), (cs, 207, 2, ca 1, fs)]) [0, 1, 2, 3, 4, 5, 6, 7, 8] rfl (I1 := [(jF9, jVl dC dI G0 9 (jUn ck el_64 0)), ([(201, 0)], jQc dC dI (ca 4) dd 3 fd), ([(208, 0)], jQc dC dI (ca 4) co 2 fo)]) [0, 2, 3] rfl
                              clear hh_87
                              have hh_90 := hh_89.addI (jDY.ie hd_88)
                              clear hh_89
                              obtain ⟨v_93, hv_93, hh_94⟩ := hh_90.pin (C := RX12) (T := TX12) (N := 11) hB14 rfl (by decide) hg_el_64 (i := 3) (by decide) rfl
                              obtain ⟨text_95, rfl, hg_text_95⟩ := hv_93
                              obtain ⟨v_96, hv_96, hh_97⟩ := hh_94.pin (C := RX12) (T := TX12) (N := 11) hB14 rfl (by decide) hg_el_64 (i := 6) (by decide) rfl
                              obtain ⟨begin_98, rfl, hg_begin_98⟩ := hv_96
                              obtain ⟨v_99, hv_99, hh_100⟩ := hh_97.pin (C := RX12) (T := TX12) (N := 11) hB14 rfl (by decide) hg_el_64 (i := 7) (by decide) rfl
                              obtain ⟨end_101, rfl, hg_end_101⟩ := hv_99
                              obtain ⟨f_ft_102, hh_102⟩ := hh_100.cpin hB101 (by decide) (by decide) hg_text_95
                              clear hh_100
                              obtain ⟨f_fb_103, hh_103⟩ := hh_102.cpin hB190 (by decide) (by decide) hg_begin_98
                              clear hh_102
                              obtain ⟨f_fe_104, hh_104⟩ := hh_103.cpin hB191 (by decide) (by decide) hg_end_101
                              clear hh_103
                              refine va_callv (A0 := jA base) (H0 := s.heap) (va_runS (As := [.ref el_64]) (rest := []) ⟨hx, hb, hml, hown, hts⟩ (uX14_partD l dC dI ca base B hB hAp hB14 hB101 hB190 hB191 hB192 G0 H_84 el_64 text_95 z_80 begin_98 end_101 sn f_ft_102 f_fb_103 f_fe_104) (va_cwS 1 hts (jgS (jWr_57 _ (List.mem_of_getElem? (i := 10) rfl)) (jWr_57 _ (List.mem_of_getElem? (i := 11) rfl)) (jWr_1 _ (List.mem_of_getElem? (i := 5) rfl)) (jWr_57 _ (List.mem_of_getElem? (i := 12) rfl))) rfl rfl rfl (by decide +kernel) ⟨by rw [← hR]; exact Nat.le_of_ble_eq_true rfl, by rw [← hR]; exact Nat.le_of_ble_eq_true rfl⟩) ⟨fun a U g mk q => by obtain ⟨q0, q1, q2, qK, q10, q11, q12, q13, q14, q15, q16, q17⟩ := q; exact ⟨q0, q1, q2, jG.calling g mk a qK, q10, q11, q12, q13, q14, q15, q16, q17⟩, fun U hU hW => ⟨rfl, hU, hh_104.2.1, hG.step hW hU hh_104.1, hg_el_64, hg_text_95, hg_begin_98, hg_end_101, (hh_104.2.2.1.sub (L1 := [(el_64, 14, 3, .ref text_95), (el_64, 14, 4, .int z_80), (el_64, 14, 6, .ref begin_98), (el_64, 14, 7, .ref end_101)]) [2, 4, 1, 0] rfl), (hh_104.2.2.2.2.2.2.2.1.sub (L1 := [(text_95, 101, 1500, ca 1, f_ft_102), (begin_98, 190, 40, ca 1, f_fb_103), (end_101, 191, 40, ca 1, f_fe_104)]) [2, 1, 0] rfl), (hh_104.2.2.2.2.2.2.2.2.sub (L1 := [(jFs, jDY dC dI ca G0 (some el_64) sn)]) [0] rfl), by first | omega | (refine ⟨?_, ?_⟩ <;> (first | omega | rfl | assumption | decide | exact Or.inl rfl | exact Or.inr rfl | (simp only; omega)))⟩⟩ rfl rfl hl.1 rfl (lv_room (Nat.le_of_ble_eq_true rfl)) dX14_open_298 ⟨Nat.zero_le _, Nat.zero_le _⟩) hh_104.1 (fun q _ h => h) (fun q h => h) (fun u_91 t_91 H_91 locs_91 ht_91 hvm_91 hr_92 hb_91 hz_91 hk_91 hS_91 => ?_)
                              obtain ⟨qs_91, gb_91, ge_91⟩ := u_91
                              rw [ht_91] at hb_91
                              obtain ⟨hb_91, hbV_91⟩ := hb_91
                              obtain ⟨⟨hb_911, hb_912, hb_913, hb_914, hb_915⟩, hb_916⟩ := hb_91
                              have hh_91 : jSt (dC, dI) B base G0 G0 EX14_open s.heap 0 0 [(el_64, 14, 5, .int qs_91), (el_64, 14, 7, .ref end_101), (el_64, 14, 6, .ref begin_98), (el_64, 14, 3, .ref text_95), (el_64, 14, 9, .int 0), (el_64, 14, 4, .int z_80), (el_64, 14, 2, .int z_76), (el_64, 14, 1, .int z_69), (r0, 16, 42, .int z_65), (r0, 16, 27, .ref pool_21), (r0, 16, 21, .ref nameTo_18), (r0, 16, 20, .ref nameFrom_15), (r0, 16, 19, .ref next_12), (r0, 16, 18, .ref heir_9), (r0, 16, 17, .ref sort_6), (r0, 16, 22, .ref xb), (r0, 16, 23, .ref xe), (r0, 16, 41, .ref dd), (r0, 16, 60, .ref co), (r0, 16, 61, .ref cs), (r0, 16, 46, .ref ol), (r0, 16, 47, .ref nw), (r0, 16, 71, .ref td)] [(begin_98, 190, 40, ca 1, gb_91), (end_101, 191, 40, ca 1, ge_91), (text_95, 101, 1500, ca 1, f_ft_102), (pool_21, 127, 3300, ca 1, f_mp_27), (nameTo_18, 121, 3100, ca 1, f_mt_26), (nameFrom_15, 120, 3100, ca 1, f_mf_25), (next_12, 119, 3100, ca 1, f_mx_24), (heir_9, 118, 3100, ca 1, f_mh_23), (sort_6, 117, 3100, ca 1, f_ms_22), (xb, 122, 3100, ca 1, fb), (xe, 123, 3100, ca 1, fe), (cs, 207, 2, ca 1, fs)] [(jFs, jDY dC dI ca G0 (some el_64) sn), (jF9, jVl dC dI G0 9 (jUn ck el_64 0)), ([(201, 0)], jQc dC dI (ca 4) dd 3 fd), ([(208, 0)], jQc dC dI (ca 4) co 2 fo)] H_91 locs_91 := (((hh_104.call hb_911 hb_912 hb_913 hb_914 hS_91 rfl (L1 := [(el_64, 14, 7, .ref end_101), (el_64, 14, 6, .ref begin_98), (el_64, 14, 3, .ref text_95), (el_64, 14, 9, .int 0), (el_64, 14, 4, .int z_80), (el_64, 14, 2, .int z_76), (el_64, 14, 1, .int z_69), (r0, 16, 42, .int z_65), (r0, 16, 27, .ref pool_21), (r0, 16, 21, .ref nameTo_18), (r0, 16, 20, .ref nameFrom_15), (r0, 16, 19, .ref next_12), (r0, 16, 18, .ref heir_9), (r0, 16, 17, .ref sort_6), (r0, 16, 22, .ref xb), (r0, 16, 23, .ref xe), (r0, 16, 41, .ref dd), (r0, 16, 60, .ref co), (r0, 16, 61, .ref cs), (r0, 16, 46, .ref ol), (r0, 16, 47, .ref nw), (r0, 16, 71, .ref td)]) [0, 1, 2, 3, 4, 5, 6, 7, 8, 9, 10, 11, 12, 13, 14, 15, 16, 17, 18, 19, 20, 21] rfl rfl (M1 := [(text_95, 101, 1500, ca 1, f_ft_102), (pool_21, 127, 3300, ca 1, f_mp_27), (nameTo_18, 121, 3100, ca 1, f_mt_26), (nameFrom_15, 120, 3100, ca 1, f_mf_25), (next_12, 119, 3100, ca 1, f_mx_24), (heir_9, 118, 3100, ca 1, f_mh_23), (sort_6, 117, 3100, ca 1, f_ms_22), (xb, 122, 3100, ca 1, fb), (xe, 123, 3100, ca 1, fe), (cs, 207, 2, ca 1, fs)]) [2, 3, 4, 5, 6, 7, 8, 9, 10, 11] rfl rfl (I1 := [(jF9, jVl dC dI G0 9 (jUn ck el_64 0)), ([(201, 0)], jQc dC dI (ca 4) dd 3 fd), ([(208, 0)], jQc dC dI (ca 4) co 2 fo)]) [1, 2, 3] rfl rfl).more hb_915).moreM hb_916).addIs hbV_91
                              clear hh_104 ht_91 hvm_91 hz_91 hk_91 hS_91 hb_911 hb_912 hb_913 hb_914 hb_915
                              clear hb_916
                              clear hbV_91
                              try simp only at hr_92
                              obtain ⟨hr_92_0, hr_92_1, hr_92_2, hr_92_3⟩ := hr_92
                              have hd_105 := jDY.full (hh_91.iv 0 rfl) hg_el_64 hg_begin_98 hg_end_101 (hh_91.2.2.1.sub (L1 := [(el_64, 14, 6, .ref begin_98), (el_64, 14, 7, .ref end_101), (el_64, 14, 5, .int qs_91)]) [2, 1, 0] rfl) (hh_91.2.2.2.2.2.2.2.1.sub (L1 := [(begin_98, 190, 40, ca 1, gb_91), (end_101, 191, 40, ca 1, ge_91)]) [0, 1] rfl) (hr_92_3.up (by omega)) (by omega) (by omega)
                              have hh_106 := hh_91.sub (L1 := [(el_64, 14, 5, .int qs_91), (el_64, 14, 7, .ref end_101), (el_64, 14, 6, .ref begin_98), (el_64, 14, 3, .ref text_95), (el_64, 14, 9, .int 0), (el_64, 14, 4, .int z_80), (el_64, 14, 2, .int z_76), (el_64, 14, 1, .int z_69), (r0, 16, 42, .int z_65), (r0, 16, 27, .ref pool_21), (r0, 16, 21, .ref nameTo_18), (r0, 16, 20, .ref nameFrom_15), (r0, 16, 19, .ref next_12), (r0, 16, 18, .ref heir_9), (r0, 16, 17, .ref sort_6), (r0, 16, 22, .ref xb), (r0, 16, 23, .ref xe), (r0, 16, 41, .ref dd), (r0, 16, 60, .ref co), (r0, 16, 61, .ref cs), (r0, 16, 46, .ref ol), (r0, 16, 47, .ref nw), (r0, 16, 71, .ref td)]) [0, 1, 2, 3, 4, 5, 6, 7, 8, 9, 10, 11, 12, 13, 14, 15, 16, 17, 18, 19, 20, 21, 22] rfl (M1 := [(begin_98, 190, 40, ca 1, gb_91), (end_101, 191, 40, ca 1, ge_91), (text_95, 101, 1500, ca 1, f_ft_102), (pool_21, 127, 3300, ca 1, f_mp_27), (nameTo_18, 121, 3100, ca 1, f_mt_26), (nameFrom_15, 120, 3100, ca 1, f_mf_25), (next_12, 119, 3100, ca 1, f_mx_24), (heir_9, 118, 3100, ca 1, f_mh_23), (sort_6, 117, 3100, ca 1, f_ms_22), (xb, 122, 3100, ca 1, fb), (xe, 123, 3100, ca 1, fe), (cs, 207, 2, ca 1, fs)]) [0, 1, 2, 3, 4, 5, 6, 7, 8, 9, 10, 11] rfl (I1 := [(jF9, jVl dC dI G0 9 (jUn ck el_64 0)), ([(201, 0)], jQc dC dI (ca 4) dd 3 fd), ([(208, 0)], jQc dC dI (ca 4) co 2 fo)]) [1, 2, 3] rfl
                              clear hh_91
                              have hh_107 := hh_106.addI (jDY.ie hd_105)
                              clear hh_106
                              refine lv_aload_n hx hb dX14_open_301 rfl (lv_at hl 0 rfl) ?_
                              refine lv_aload hx hb dX14_open_302 (lv_at hl 7 rfl) ?_
                              refine va_callv (A0 := jA base) (H0 := s.heap) (va_runV (As := [.ref el_64]) (rest := []) ⟨hx, hb, hml, hown, hts⟩ (uX14_settled l dC dI ca base B hB hAp hB14 hB15 hB16 hB101 hB103 hB150 hB151 hB152 hB153 hB154 hB155 hB156 hB157 hB158 hB159 hB160 hB161 hB162 hB163 hB164 hB165 hB166 hB167 hB168 hB169 hB190 hB191 hB192 hB193 hB202 hB203 hB204 hB206 G0 H_91 r0 el_64 dd z_65 co cs ol nw td (jUn sn el_64 qs_91) (jUn ck el_64 0) fd fo fs) (cwV 1 hts (jgV (jWr_58 _ (List.mem_of_getElem? (i := 7) rfl)) (jWr_58 _ (List.mem_of_getElem? (i := 8) rfl)) (jWr_58 _ (List.mem_of_getElem? (i := 9) rfl)) (jWr_1 _ (List.mem_of_getElem? (i := 5) rfl)) (jWr_58 _ (List.mem_of_getElem? (i := 10) rfl))) rfl rfl rfl (by decide +kernel) ⟨by rw [← hR]; exact Nat.le_of_ble_eq_true rfl, by rw [← hR]; exact Nat.le_of_ble_eq_true rfl⟩) ⟨fun a U g mk q => by obtain ⟨q0, q1, q2, qK, q10, q11, q12, q13, q14, q15, q16, q17, q18, q19, q20, q21, q22⟩ := q; exact ⟨q0, q1, q2, jG.calling g mk a qK, (va_K.moved (Vm.Alike.refl U.vm) q10), q11, q12, q13, q14, q15, q16, q17, q18, q19, q20, q21, q22⟩, hh_107.recv (C := RX14) (T := TX14) (N := 74) hB16 rfl (by decide) hg_r0 hK, fun U hU hW => ⟨rfl, hU, hh_107.2.1, hG.step hW hU hh_107.1, va_K.moved hW.alike hK2, hg_el_64, hg_r0, hg_dd, hg_co, hg_cs, hg_ol, hg_nw, hg_td, (hh_107.2.2.1.sub (L1 := [(r0, 16, 41, .ref dd), (r0, 16, 42, .int z_65), (r0, 16, 60, .ref co), (r0, 16, 61, .ref cs), (r0, 16, 46, .ref ol), (r0, 16, 47, .ref nw), (r0, 16, 71, .ref td)]) [17, 8, 18, 19, 20, 21, 22] rfl), (hh_107.2.2.2.2.2.2.2.1.sub (L1 := [(cs, 207, 2, ca 1, fs)]) [11] rfl), (hh_107.2.2.2.2.2.2.2.2.sub (L1 := [(jFs, jDY dC dI ca G0 none (jUn sn el_64 qs_91)), (jF9, jVl dC dI G0 9 (jUn ck el_64 0)), ([(201, 0)], jQc dC dI (ca 4) dd 3 fd), ([(208, 0)], jQc dC dI (ca 4) co 2 fo)]) [0, 1, 2, 3] rfl), ⟨(by first | assumption | (rw [jUn_e, jUn_e]; omega) | exact hp0.opn heo_63.symm (by omega) (by omega) (by omega) (by rw [hk0]; omega) | omega), (by first | omega | rfl | assumption | (rw [jUn_e, jUn_e]; omega) | exact hp0.opn heo_63.symm (by omega) (by omega) (by omega) (by rw [hk0]; omega))⟩⟩⟩ rfl rfl hl.1 rfl (lv_room (Nat.le_of_ble_eq_true rfl)) dX14_open_304 ⟨Nat.zero_le _, Nat.zero_le _⟩) hh_107.1 (fun q _ h => h) (fun q h => h) (fun u_108 t_108 H_108 locs_108 ht_108 hvm_108 hr_109 hb_108 hz_108 hk_108 hS_108 => ?_)
                              rw [ht_108] at hb_108
                              obtain ⟨hb_1081, hb_1082, hb_1083, hb_1084, hb_1085⟩ := hb_108
                              have hh_108 : jSt (dC, dI) B base G0 G0 EX14_open s.heap 0 0 [(el_64, 14, 5, .int qs_91), (el_64, 14, 7, .ref end_101), (el_64, 14, 6, .ref begin_98), (el_64, 14, 3, .ref text_95), (el_64, 14, 9, .int 0), (el_64, 14, 4, .int z_80), (el_64, 14, 2, .int z_76), (el_64, 14, 1, .int z_69), (r0, 16, 42, .int z_65), (r0, 16, 27, .ref pool_21), (r0, 16, 21, .ref nameTo_18), (r0, 16, 20, .ref nameFrom_15), (r0, 16, 19, .ref next_12), (r0, 16, 18, .ref heir_9), (r0, 16, 17, .ref sort_6), (r0, 16, 22, .ref xb), (r0, 16, 23, .ref xe), (r0, 16, 41, .ref dd), (r0, 16, 60, .ref co), (r0, 16, 61, .ref cs), (r0, 16, 46, .ref ol), (r0, 16, 47, .ref nw), (r0, 16, 71, .ref td)] [(begin_98, 190, 40, ca 1, gb_91), (end_101, 191, 40, ca 1, ge_91), (pool_21, 127, 3300, ca 1, f_mp_27), (nameTo_18, 121, 3100, ca 1, f_mt_26), (nameFrom_15, 120, 3100, ca 1, f_mf_25), (next_12, 119, 3100, ca 1, f_mx_24), (heir_9, 118, 3100, ca 1, f_mh_23), (sort_6, 117, 3100, ca 1, f_ms_22), (xb, 122, 3100, ca 1, fb), (xe, 123, 3100, ca 1, fe), (cs, 207, 2, ca 1, fs)] [(jFs, jDY dC dI ca G0 none (jUn sn el_64 qs_91)), (jF9, jVl dC dI G0 9 (jUn ck el_64 0)), ([(201, 0)], jQc dC dI (ca 4) dd 3 fd), ([(208, 0)], jQc dC dI (ca 4) co 2 fo)] H_108 locs_108 := ((hh_107.call hb_1081 hb_1082 hb_1083 hb_1084 hS_108 rfl (L1 := [(el_64, 14, 5, .int qs_91), (el_64, 14, 7, .ref end_101), (el_64, 14, 6, .ref begin_98), (el_64, 14, 3, .ref text_95), (el_64, 14, 9, .int 0), (el_64, 14, 4, .int z_80), (el_64, 14, 2, .int z_76), (el_64, 14, 1, .int z_69), (r0, 16, 42, .int z_65), (r0, 16, 27, .ref pool_21), (r0, 16, 21, .ref nameTo_18), (r0, 16, 20, .ref nameFrom_15), (r0, 16, 19, .ref next_12), (r0, 16, 18, .ref heir_9), (r0, 16, 17, .ref sort_6), (r0, 16, 22, .ref xb), (r0, 16, 23, .ref xe), (r0, 16, 41, .ref dd), (r0, 16, 60, .ref co), (r0, 16, 61, .ref cs), (r0, 16, 46, .ref ol), (r0, 16, 47, .ref nw), (r0, 16, 71, .ref td)]) [0, 1, 2, 3, 4, 5, 6, 7, 8, 9, 10, 11, 12, 13, 14, 15, 16, 17, 18, 19, 20, 21, 22] rfl rfl (M1 := [(begin_98, 190, 40, ca 1, gb_91), (end_101, 191, 40, ca 1, ge_91), (pool_21, 127, 3300, ca 1, f_mp_27), (nameTo_18, 121, 3100, ca 1, f_mt_26), (nameFrom_15, 120, 3100, ca 1, f_mf_25), (next_12, 119, 3100, ca 1, f_mx_24), (heir_9, 118, 3100, ca 1, f_mh_23), (sort_6, 117, 3100, ca 1, f_ms_22), (xb, 122, 3100, ca 1, fb), (xe, 123, 3100, ca 1, fe), (cs, 207, 2, ca 1, fs)]) [0, 1, 3, 4, 5, 6, 7, 8, 9, 10, 11] rfl rfl (I1 := [(jFs, jDY dC dI ca G0 none (jUn sn el_64 qs_91)), (jF9, jVl dC dI G0 9 (jUn ck el_64 0)), ([(201, 0)], jQc dC dI (ca 4) dd 3 fd), ([(208, 0)], jQc dC dI (ca 4) co 2 fo)]) [0, 1, 2, 3] rfl rfl).more hb_1085)
                              clear hh_107 ht_108 hvm_108 hz_108 hk_108 hS_108 hb_1081 hb_1082 hb_1083 hb_1084 hb_1085
                              rw [hQ]
                              exact W.vret hx hb hr (fun t ht hW => ⟨⟨(), rfl, trivial, ⟨hh_108.rt (M1 := []) [] rfl ht, by rw [ht]; exact ⟨(jUn sn el_64 qs_91), (jUn ck el_64 0), fs, fd, fo, z_65, hh_108.2.2.1.sub (L1 := [(r0, 16, 41, .ref dd), (r0, 16, 42, .int z_65), (r0, 16, 60, .ref co), (r0, 16, 61, .ref cs), (r0, 16, 46, .ref ol), (r0, 16, 47, .ref nw), (r0, 16, 71, .ref td)]) [17, 8, 18, 19, 20, 21, 22] rfl, hh_108.2.2.2.2.2.2.2.1.sub (L1 := [(cs, 207, 2, ca 1, fs)]) [10] rfl, hh_108.2.2.2.2.2.2.2.2.sub (L1 := [(jFs, jDY dC dI ca G0 none (jUn sn el_64 qs_91)), (jF9, jVl dC dI G0 9 (jUn ck el_64 0)), ([(201, 0)], jQc dC dI (ca 4) dd 3 fd), ([(208, 0)], jQc dC dI (ca 4) co 2 fo)]) [0, 1, 2, 3] rfl, hp0.opn heo_63.symm (by omega) (by omega) (by omega) (by rw [hk0]; omega)⟩⟩⟩, by rw [ht]; try exact hh_108.1.1, fun q h9 hq => by rw [ht]; try exact hh_108.1.2.1 q h9 hq⟩) hh_108.1.2.2 dX14_open_307
                            · skip
                              have c_83' : v8_82.toInt < z_80.toInt := jb_ge_n (rfl) (rfl) c_83
                              refine lv_aload hx hb dX14_open_261 (lv_at hl 7 rfl) ?_
                              obtain ⟨v_110, hv_110, hh_111⟩ := hh_82.pin (C := RX12) (T := TX12) (N := 11) hB14 rfl (by decide) hg_el_64 (i := 3) (by decide) rfl
                              clear hh_82
                              obtain ⟨text_112, rfl, hg_text_112⟩ := hv_110
                              refine j7_readN hx hb hown hK (C := RX12) (T := TX12) (N := 11) rfl hly_14_3 hlk_529 (hh_111.at 0 rfl) dX14_open_263 ?_
                              refine lv_iload hx hb dX14_open_266 (lv_at hl 8 rfl) ?_
                              refine lv_aload_n hx hb dX14_open_268 rfl (lv_at hl 0 rfl) ?_
                              refine j7_read hx hb hown hK (C := RX14) (T := TX14) (N := 74) rfl hly_16_27 hlk_65 (hh_111.at 5 rfl) dX14_open_269 ?_
                              refine lv_aload_n hx hb dX14_open_272 rfl (lv_at hl 0 rfl) ?_
                              refine j7_read hx hb hown hK (C := RX14) (T := TX14) (N := 74) rfl hly_16_22 hlk_52 (hh_111.at 11 rfl) dX14_open_273 ?_
                              refine lv_iload hx hb dX14_open_276 (lv_at hl 5 rfl) ?_
                              refine j7_ialdM hx hb hK hh_111 hB122 1 rfl (by decide) hg_xb (x := r_33.toInt) (rfl) (by omega) (j := 6) rfl dX14_open_278 (fun z_113 ez_113 (hz_113 : 0 ≤ z_113.toInt ∧ z_113.toInt ≤ 3100) => ?_)
                              have hqz_113 : z_113.toInt = jSo fb (r_33.toInt) := by unfold jSo; rw [ez_113]
                              refine lv_iload hx hb dX14_open_279 (lv_at hl 8 rfl) ?_
                              refine lv_iadd hx hb dX14_open_281 ?_
                              refine lv_topi (fun z_114 ez_114 => ?_)
                              have hz_114 : z_114.toInt = z_113.toInt + v8_82.toInt := by rw [ez_114]; exact jb_iadd2 (rfl) (rfl) (by omega)
                              refine j7_ialdM hx hb hK hh_111 hB127 1 rfl (by decide) hg_pool_21 (x := z_114.toInt) (rfl) (by omega) (j := 0) rfl dX14_open_282 (fun z_115 ez_115 (hz_115 : True) => ?_)
                              have hqz_115 : z_115.toInt = jSo f_mp_27 ((z_113.toInt + v8_82.toInt)) := by unfold jSo; rw [ez_115, show z_114.toInt = (z_113.toInt + v8_82.toInt) by omega]
                              refine j7_iast hx hb hK hh_111 hB hB101 1 rfl (by decide) (by decide) rfl rfl rfl hg_text_112 (x := v8_82.toInt) (rfl) (by omega) (trivial) dX14_open_283 (fun H_116 locs_116 hh_116 => ?_)
                              clear hh_111
                              obtain ⟨z_117, ez_117⟩ : ∃ y : Int32, y = v8_82 + 1 := ⟨_, rfl⟩
                              refine lv_iinc (v := z_117) (lv' := [(8, .int z_117), (0, .ref r0), (1, .int a1), (2, .int r_3), (3, .int r_29), (4, .int r_31), (5, .int r_33), (6, .int 1), (7, .ref el_64)]) hx hb dX14_open_284 hl (k := 8) rfl (by rw [ez_117]; rfl) (by decide) rfl (fun ls hl => ?_)
                              have hz_117 : z_117.toInt = v8_82.toInt + 1 := by rw [ez_117]; exact jb_iadd2 (rfl) (by decide) (by omega)
                              refine lv_goto (tgt := 251) hx hb dX14_open_287 (by decide) ?_
                              exact L251 z_117 _ _ (hh_116.sub (L1 := [(el_64, 14, 4, .int z_80), (el_64, 14, 2, .int z_76), (el_64, 14, 1, .int z_69), (r0, 16, 42, .int z_65), (r0, 16, 27, .ref pool_21), (r0, 16, 21, .ref nameTo_18), (r0, 16, 20, .ref nameFrom_15), (r0, 16, 19, .ref next_12), (r0, 16, 18, .ref heir_9), (r0, 16, 17, .ref sort_6), (r0, 16, 22, .ref xb), (r0, 16, 23, .ref xe), (r0, 16, 41, .ref dd), (r0, 16, 60, .ref co), (r0, 16, 61, .ref cs), (r0, 16, 46, .ref ol), (r0, 16, 47, .ref nw), (r0, 16, 71, .ref td)]) [1, 2, 3, 4, 5, 6, 7, 8, 9, 10, 11, 12, 13, 14, 15, 16, 17, 18] rfl (M1 := [(pool_21, 127, 3300, ca 1, f_mp_27), (nameTo_18, 121, 3100, ca 1, f_mt_26), (nameFrom_15, 120, 3100, ca 1, f_mf_25), (next_12, 119, 3100, ca 1, f_mx_24), (heir_9, 118, 3100, ca 1, f_mh_23), (sort_6, 117, 3100, ca 1, f_ms_22), (xb, 122, 3100, ca 1, fb), (xe, 123, 3100, ca 1, fe), (cs, 207, 2, ca 1, fs)]) [0, 1, 2, 3, 4, 5, 6, 7, 8] rfl (I1 := [(jFs, jDY dC dI ca G0 none sn), (jF9, jVl dC dI G0 9 ck), ([(201, 0)], jQc dC dI (ca 4) dd 3 fd), ([(208, 0)], jQc dC dI (ca 4) co 2 fo)]) [0, 1, 2, 3] rfl) (by first | omega | (refine ⟨?_, ?_⟩ <;> (first | omega | rfl | assumption | decide | exact Or.inl rfl | exact Or.inr rfl | (simp only; omega)))) (by omega) _ (lv_sub hl [1, 2, 3, 4, 5, 6, 7, 8, 0] rfl)
                        exact L251 (1500 - (0 : Int32).toInt : Int).toNat.succ 0 _ _ (hh_81.sub (L1 := [(el_64, 14, 4, .int z_80), (el_64, 14, 2, .int z_76), (el_64, 14, 1, .int z_69), (r0, 16, 42, .int z_65), (r0, 16, 27, .ref pool_21), (r0, 16, 21, .ref nameTo_18), (r0, 16, 20, .ref nameFrom_15), (r0, 16, 19, .ref next_12), (r0, 16, 18, .ref heir_9), (r0, 16, 17, .ref sort_6), (r0, 16, 22, .ref xb), (r0, 16, 23, .ref xe), (r0, 16, 41, .ref dd), (r0, 16, 60, .ref co), (r0, 16, 61, .ref cs), (r0, 16, 46, .ref ol), (r0, 16, 47, .ref nw), (r0, 16, 71, .ref td)]) [0, 1, 3, 4, 5, 6, 7, 8, 9, 10, 11, 12, 13, 14, 15, 16, 17, 18] rfl (M1 := [(pool_21, 127, 3300, ca 1, f_mp_27), (nameTo_18, 121, 3100, ca 1, f_mt_26), (nameFrom_15, 120, 3100, ca 1, f_mf_25), (next_12, 119, 3100, ca 1, f_mx_24), (heir_9, 118, 3100, ca 1, f_mh_23), (sort_6, 117, 3100, ca 1, f_ms_22), (xb, 122, 3100, ca 1, fb), (xe, 123, 3100, ca 1, fe), (cs, 207, 2, ca 1, fs)]) [0, 1, 2, 3, 4, 5, 6, 7, 8] rfl (I1 := [(jFs, jDY dC dI ca G0 none sn), (jF9, jVl dC dI G0 9 ck), ([(201, 0)], jQc dC dI (ca 4) dd 3 fd), ([(208, 0)], jQc dC dI (ca 4) co 2 fo)]) [0, 1, 2, 3] rfl) (by first | omega | (refine ⟨?_, ?_⟩ <;> (first | omega | rfl | assumption | decide | exact Or.inl rfl | exact Or.inr rfl | (simp only; omega)))) (by omega) _ (lv_sub hl [1, 2, 3, 4, 5, 6, 7, 8, 0] rfl)
                      · skip
                        have c_72' : v8_71.toInt < z_69.toInt := jb_ge_n (rfl) (rfl) c_72
                        refine lv_aload hx hb dX14_open_188 (lv_at hl 7 rfl) ?_
                        obtain ⟨v_118, hv_118, hh_119⟩ := hh_71.pin (C := RX12) (T := TX12) (N := 11) hB14 rfl (by decide) hg_el_64 (i := 0) (by decide) rfl
                        clear hh_71
                        obtain ⟨uri_120, rfl, hg_uri_120⟩ := hv_118
                        refine j7_readN hx hb hown hK (C := RX12) (T := TX12) (N := 11) rfl hly_14_0 hlk_511 (hh_119.at 0 rfl) dX14_open_190 ?_
                        refine lv_iload hx hb dX14_open_193 (lv_at hl 8 rfl) ?_
                        refine lv_aload_n hx hb dX14_open_195 rfl (lv_at hl 0 rfl) ?_
                        refine j7_read hx hb hown hK (C := RX14) (T := TX14) (N := 74) rfl hly_16_27 hlk_65 (hh_119.at 3 rfl) dX14_open_196 ?_
                        refine lv_aload_n hx hb dX14_open_199 rfl (lv_at hl 0 rfl) ?_
                        refine j7_read hx hb hown hK (C := RX14) (T := TX14) (N := 74) rfl hly_16_22 hlk_52 (hh_119.at 9 rfl) dX14_open_200 ?_
                        refine lv_iload_n hx hb dX14_open_203 rfl (lv_at hl 3 rfl) ?_
                        refine j7_ialdM hx hb hK hh_119 hB122 1 rfl (by decide) hg_xb (x := r_29.toInt) (rfl) (by omega) (j := 6) rfl dX14_open_204 (fun z_121 ez_121 (hz_121 : 0 ≤ z_121.toInt ∧ z_121.toInt ≤ 3100) => ?_)
                        have hqz_121 : z_121.toInt = jSo fb (r_29.toInt) := by unfold jSo; rw [ez_121]
                        refine lv_iload hx hb dX14_open_205 (lv_at hl 8 rfl) ?_
                        refine lv_iadd hx hb dX14_open_207 ?_
                        refine lv_topi (fun z_122 ez_122 => ?_)
                        have hz_122 : z_122.toInt = z_121.toInt + v8_71.toInt := by rw [ez_122]; exact jb_iadd2 (rfl) (rfl) (by omega)
                        refine j7_ialdM hx hb hK hh_119 hB127 1 rfl (by decide) hg_pool_21 (x := z_122.toInt) (rfl) (by omega) (j := 0) rfl dX14_open_208 (fun z_123 ez_123 (hz_123 : True) => ?_)
                        have hqz_123 : z_123.toInt = jSo f_mp_27 ((z_121.toInt + v8_71.toInt)) := by unfold jSo; rw [ez_123, show z_122.toInt = (z_121.toInt + v8_71.toInt) by omega]
                        refine j7_iast hx hb hK hh_119 hB hB101 1 rfl (by decide) (by decide) rfl rfl rfl hg_uri_120 (x := v8_71.toInt) (rfl) (by omega) (trivial) dX14_open_209 (fun H_124 locs_124 hh_124 => ?_)
                        clear hh_119
                        obtain ⟨z_125, ez_125⟩ : ∃ y : Int32, y = v8_71 + 1 := ⟨_, rfl⟩
                        refine lv_iinc (v := z_125) (lv' := [(8, .int z_125), (0, .ref r0), (1, .int a1), (2, .int r_3), (3, .int r_29), (4, .int r_31), (5, .int r_33), (6, .int 1), (7, .ref el_64)]) hx hb dX14_open_210 hl (k := 8) rfl (by rw [ez_125]; rfl) (by decide) rfl (fun ls hl => ?_)
                        have hz_125 : z_125.toInt = v8_71.toInt + 1 := by rw [ez_125]; exact jb_iadd2 (rfl) (by decide) (by omega)
                        refine lv_goto (tgt := 178) hx hb dX14_open_213 (by decide) ?_
                        exact L178 z_125 _ _ (hh_124.sub (L1 := [(el_64, 14, 1, .int z_69), (r0, 16, 42, .int z_65), (r0, 16, 27, .ref pool_21), (r0, 16, 21, .ref nameTo_18), (r0, 16, 20, .ref nameFrom_15), (r0, 16, 19, .ref next_12), (r0, 16, 18, .ref heir_9), (r0, 16, 17, .ref sort_6), (r0, 16, 22, .ref xb), (r0, 16, 23, .ref xe), (r0, 16, 41, .ref dd), (r0, 16, 60, .ref co), (r0, 16, 61, .ref cs), (r0, 16, 46, .ref ol), (r0, 16, 47, .ref nw), (r0, 16, 71, .ref td)]) [1, 2, 3, 4, 5, 6, 7, 8, 9, 10, 11, 12, 13, 14, 15, 16] rfl (M1 := [(pool_21, 127, 3300, ca 1, f_mp_27), (nameTo_18, 121, 3100, ca 1, f_mt_26), (nameFrom_15, 120, 3100, ca 1, f_mf_25), (next_12, 119, 3100, ca 1, f_mx_24), (heir_9, 118, 3100, ca 1, f_mh_23), (sort_6, 117, 3100, ca 1, f_ms_22), (xb, 122, 3100, ca 1, fb), (xe, 123, 3100, ca 1, fe), (cs, 207, 2, ca 1, fs)]) [0, 1, 2, 3, 4, 5, 6, 7, 8] rfl (I1 := [(jFs, jDY dC dI ca G0 none sn), (jF9, jVl dC dI G0 9 ck), ([(201, 0)], jQc dC dI (ca 4) dd 3 fd), ([(208, 0)], jQc dC dI (ca 4) co 2 fo)]) [0, 1, 2, 3] rfl) (by first | omega | (refine ⟨?_, ?_⟩ <;> (first | omega | rfl | assumption | decide | exact Or.inl rfl | exact Or.inr rfl | (simp only; omega)))) (by omega) _ (lv_sub hl [1, 2, 3, 4, 5, 6, 7, 8, 0] rfl)
                  exact L178 (40 - (0 : Int32).toInt : Int).toNat.succ 0 _ _ hh_70 (by first | omega | (refine ⟨?_, ?_⟩ <;> (first | omega | rfl | assumption | decide | exact Or.inl rfl | exact Or.inr rfl | (simp only; omega)))) (by omega) _ (lv_sub hl [7, 8, 6, 5, 4, 3, 2, 1, 0] rfl)
                · skip
                  have c_62' : dc.toInt = 3 := jb_ne_n (rfl) ((by decide)) c_62
                  rw [hQ]
                  exact W.vret hx hb hr (fun t ht hW => ⟨⟨(), rfl, trivial, ⟨hh_59.rt (M1 := []) [] rfl ht, by rw [ht]; exact ⟨sn, ck, fs, fd, fo, dc, hh_59.2.2.1.sub (L1 := [(r0, 16, 41, .ref dd), (r0, 16, 42, .int dc), (r0, 16, 60, .ref co), (r0, 16, 61, .ref cs), (r0, 16, 46, .ref ol), (r0, 16, 47, .ref nw), (r0, 16, 71, .ref td)]) [8, 9, 10, 11, 12, 13, 14] rfl, hh_59.2.2.2.2.2.2.2.1.sub (L1 := [(cs, 207, 2, ca 1, fs)]) [8] rfl, hh_59.2.2.2.2.2.2.2.2.sub (L1 := [(jFs, jDY dC dI ca G0 none sn), (jF9, jVl dC dI G0 9 ck), ([(201, 0)], jQc dC dI (ca 4) dd 3 fd), ([(208, 0)], jQc dC dI (ca 4) co 2 fo)]) [0, 1, 2, 3] rfl, hp0⟩⟩⟩, by rw [ht]; try exact hh_59.1.1, fun q h9 hq => by rw [ht]; try exact hh_59.1.2.1 q h9 hq⟩) hh_59.1.2.2 dX14_open_135
              · skip
                refine lv_ifnonnull (tgt := 135) hx hb dX14_open_124 (by decide) ?_
                rw [hQ]
                exact W.vret hx hb hr (fun t ht hW => ⟨⟨(), rfl, trivial, ⟨hh_59.rt (M1 := []) [] rfl ht, by rw [ht]; exact ⟨sn, ck, fs, fd, fo, dc, hh_59.2.2.1.sub (L1 := [(r0, 16, 41, .ref dd), (r0, 16, 42, .int dc), (r0, 16, 60, .ref co), (r0, 16, 61, .ref cs), (r0, 16, 46, .ref ol), (r0, 16, 47, .ref nw), (r0, 16, 71, .ref td)]) [8, 9, 10, 11, 12, 13, 14] rfl, hh_59.2.2.2.2.2.2.2.1.sub (L1 := [(cs, 207, 2, ca 1, fs)]) [8] rfl, hh_59.2.2.2.2.2.2.2.2.sub (L1 := [(jFs, jDY dC dI ca G0 none sn), (jF9, jVl dC dI G0 9 ck), ([(201, 0)], jQc dC dI (ca 4) dd 3 fd), ([(208, 0)], jQc dC dI (ca 4) co 2 fo)]) [0, 1, 2, 3] rfl, hp0⟩⟩⟩, by rw [ht]; try exact hh_59.1.1, fun q h9 hq => by rw [ht]; try exact hh_59.1.2.1 q h9 hq⟩) hh_59.1.2.2 dX14_open_135
