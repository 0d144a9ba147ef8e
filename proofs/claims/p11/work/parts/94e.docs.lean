theorem dX14_batch_0 : decode cX14_batch 0 = .ok (.iload_n 1, 1) := by decide +kernel
theorem dX14_batch_1 : decode cX14_batch 1 = .ok (.ifCond .lt 11, 3) := by decide +kernel
theorem dX14_batch_4 : decode cX14_batch 4 = .ok (.iload_n 1, 1) := by decide +kernel
theorem dX14_batch_5 : decode cX14_batch 5 = .ok (.aload_n 0, 1) := by decide +kernel
theorem dX14_batch_6 : decode cX14_batch 6 = .ok (.getfield 217, 3) := by decide +kernel
theorem dX14_batch_9 : decode cX14_batch 9 = .ok (.if_icmp .le 5, 3) := by decide +kernel
theorem dX14_batch_12 : decode cX14_batch 12 = .ok (.iconst (-1), 1) := by decide +kernel
theorem dX14_batch_13 : decode cX14_batch 13 = .ok (.ireturn, 1) := by decide +kernel
theorem dX14_batch_14 : decode cX14_batch 14 = .ok (.aload_n 0, 1) := by decide +kernel
theorem dX14_batch_15 : decode cX14_batch 15 = .ok (.iconst 0, 1) := by decide +kernel
theorem dX14_batch_16 : decode cX14_batch 16 = .ok (.putfield 217, 3) := by decide +kernel
theorem dX14_batch_19 : decode cX14_batch 19 = .ok (.iconst 0, 1) := by decide +kernel
theorem dX14_batch_20 : decode cX14_batch 20 = .ok (.istore_n 2, 1) := by decide +kernel
theorem dX14_batch_21 : decode cX14_batch 21 = .ok (.iconst 0, 1) := by decide +kernel
theorem dX14_batch_22 : decode cX14_batch 22 = .ok (.istore_n 3, 1) := by decide +kernel
theorem dX14_batch_23 : decode cX14_batch 23 = .ok (.iload_n 3, 1) := by decide +kernel
theorem dX14_batch_24 : decode cX14_batch 24 = .ok (.iload_n 1, 1) := by decide +kernel
theorem dX14_batch_25 : decode cX14_batch 25 = .ok (.if_icmp .ge 115, 3) := by decide +kernel
theorem dX14_batch_28 : decode cX14_batch 28 = .ok (.aload_n 0, 1) := by decide +kernel
theorem dX14_batch_29 : decode cX14_batch 29 = .ok (.aload_n 0, 1) := by decide +kernel
theorem dX14_batch_30 : decode cX14_batch 30 = .ok (.getfield 9, 3) := by decide +kernel
theorem dX14_batch_33 : decode cX14_batch 33 = .ok (.iload_n 3, 1) := by decide +kernel
theorem dX14_batch_34 : decode cX14_batch 34 = .ok (.iload_n 1, 1) := by decide +kernel
theorem dX14_batch_35 : decode cX14_batch 35 = .ok (.invokevirtual 353, 3) := by decide +kernel
theorem dX14_batch_38 : decode cX14_batch 38 = .ok (.istore 4, 2) := by decide +kernel
theorem dX14_batch_40 : decode cX14_batch 40 = .ok (.iload 4, 2) := by decide +kernel
theorem dX14_batch_42 : decode cX14_batch 42 = .ok (.ifCond .ne 8, 3) := by decide +kernel
theorem dX14_batch_45 : decode cX14_batch 45 = .ok (.ldc 201, 2) := by decide +kernel
theorem dX14_batch_47 : decode cX14_batch 47 = .ok (.goto 7, 3) := by decide +kernel
theorem dX14_batch_50 : decode cX14_batch 50 = .ok (.aload_n 0, 1) := by decide +kernel
theorem dX14_batch_51 : decode cX14_batch 51 = .ok (.getfield 357, 3) := by decide +kernel
theorem dX14_batch_54 : decode cX14_batch 54 = .ok (.istore 5, 2) := by decide +kernel
theorem dX14_batch_56 : decode cX14_batch 56 = .ok (.iload_n 3, 1) := by decide +kernel
theorem dX14_batch_57 : decode cX14_batch 57 = .ok (.iload 4, 2) := by decide +kernel
theorem dX14_batch_59 : decode cX14_batch 59 = .ok (.ifCond .ne 7, 3) := by decide +kernel
theorem dX14_batch_62 : decode cX14_batch 62 = .ok (.iconst 1, 1) := by decide +kernel
theorem dX14_batch_63 : decode cX14_batch 63 = .ok (.goto 5, 3) := by decide +kernel
theorem dX14_batch_66 : decode cX14_batch 66 = .ok (.iload 4, 2) := by decide +kernel
theorem dX14_batch_68 : decode cX14_batch 68 = .ok (.iadd, 1) := by decide +kernel
theorem dX14_batch_69 : decode cX14_batch 69 = .ok (.istore_n 3, 1) := by decide +kernel
theorem dX14_batch_70 : decode cX14_batch 70 = .ok (.iload_n 2, 1) := by decide +kernel
theorem dX14_batch_71 : decode cX14_batch 71 = .ok (.iconst 2, 1) := by decide +kernel
theorem dX14_batch_72 : decode cX14_batch 72 = .ok (.iadd, 1) := by decide +kernel
theorem dX14_batch_73 : decode cX14_batch 73 = .ok (.aload_n 0, 1) := by decide +kernel
theorem dX14_batch_74 : decode cX14_batch 74 = .ok (.getfield 78, 3) := by decide +kernel
theorem dX14_batch_77 : decode cX14_batch 77 = .ok (.arraylength, 1) := by decide +kernel
theorem dX14_batch_78 : decode cX14_batch 78 = .ok (.if_icmp .le 6, 3) := by decide +kernel
theorem dX14_batch_81 : decode cX14_batch 81 = .ok (.goto 59, 3) := by decide +kernel
theorem dX14_batch_84 : decode cX14_batch 84 = .ok (.iload 5, 2) := by decide +kernel
theorem dX14_batch_86 : decode cX14_batch 86 = .ok (.ldc_w 333, 3) := by decide +kernel
theorem dX14_batch_89 : decode cX14_batch 89 = .ok (.if_icmp .le 37, 3) := by decide +kernel
theorem dX14_batch_92 : decode cX14_batch 92 = .ok (.aload_n 0, 1) := by decide +kernel
theorem dX14_batch_93 : decode cX14_batch 93 = .ok (.getfield 78, 3) := by decide +kernel
theorem dX14_batch_96 : decode cX14_batch 96 = .ok (.iload_n 2, 1) := by decide +kernel
theorem dX14_batch_97 : decode cX14_batch 97 = .ok (.ldc 179, 2) := by decide +kernel
theorem dX14_batch_99 : decode cX14_batch 99 = .ok (.iload 5, 2) := by decide +kernel
theorem dX14_batch_101 : decode cX14_batch 101 = .ok (.ldc 197, 2) := by decide +kernel
theorem dX14_batch_103 : decode cX14_batch 103 = .ok (.isub, 1) := by decide +kernel
theorem dX14_batch_104 : decode cX14_batch 104 = .ok (.bipush 10, 2) := by decide +kernel
theorem dX14_batch_106 : decode cX14_batch 106 = .ok (.ishr, 1) := by decide +kernel
theorem dX14_batch_107 : decode cX14_batch 107 = .ok (.iadd, 1) := by decide +kernel
theorem dX14_batch_108 : decode cX14_batch 108 = .ok (.iastore, 1) := by decide +kernel
theorem dX14_batch_109 : decode cX14_batch 109 = .ok (.iinc 2 1, 3) := by decide +kernel
theorem dX14_batch_112 : decode cX14_batch 112 = .ok (.ldc 185, 2) := by decide +kernel
theorem dX14_batch_114 : decode cX14_batch 114 = .ok (.iload 5, 2) := by decide +kernel
theorem dX14_batch_116 : decode cX14_batch 116 = .ok (.ldc 197, 2) := by decide +kernel
theorem dX14_batch_118 : decode cX14_batch 118 = .ok (.isub, 1) := by decide +kernel
theorem dX14_batch_119 : decode cX14_batch 119 = .ok (.sipush 1023, 3) := by decide +kernel
theorem dX14_batch_122 : decode cX14_batch 122 = .ok (.iand, 1) := by decide +kernel
theorem dX14_batch_123 : decode cX14_batch 123 = .ok (.iadd, 1) := by decide +kernel
theorem dX14_batch_124 : decode cX14_batch 124 = .ok (.istore 5, 2) := by decide +kernel
theorem dX14_batch_126 : decode cX14_batch 126 = .ok (.aload_n 0, 1) := by decide +kernel
theorem dX14_batch_127 : decode cX14_batch 127 = .ok (.getfield 78, 3) := by decide +kernel
theorem dX14_batch_130 : decode cX14_batch 130 = .ok (.iload_n 2, 1) := by decide +kernel
theorem dX14_batch_131 : decode cX14_batch 131 = .ok (.iload 5, 2) := by decide +kernel
theorem dX14_batch_133 : decode cX14_batch 133 = .ok (.iastore, 1) := by decide +kernel
theorem dX14_batch_134 : decode cX14_batch 134 = .ok (.iinc 2 1, 3) := by decide +kernel
theorem dX14_batch_137 : decode cX14_batch 137 = .ok (.goto (-114), 3) := by decide +kernel
theorem dX14_batch_140 : decode cX14_batch 140 = .ok (.iload_n 2, 1) := by decide +kernel
theorem dX14_batch_141 : decode cX14_batch 141 = .ok (.sipush 1500, 3) := by decide +kernel
theorem dX14_batch_144 : decode cX14_batch 144 = .ok (.if_icmp .le 6, 3) := by decide +kernel
theorem dX14_batch_147 : decode cX14_batch 147 = .ok (.bipush (-2), 2) := by decide +kernel
theorem dX14_batch_149 : decode cX14_batch 149 = .ok (.ireturn, 1) := by decide +kernel
theorem dX14_batch_150 : decode cX14_batch 150 = .ok (.aload_n 0, 1) := by decide +kernel
theorem dX14_batch_151 : decode cX14_batch 151 = .ok (.getfield 151, 3) := by decide +kernel
theorem dX14_batch_154 : decode cX14_batch 154 = .ok (.iload_n 2, 1) := by decide +kernel
theorem dX14_batch_155 : decode cX14_batch 155 = .ok (.putfield 526, 3) := by decide +kernel
theorem dX14_batch_158 : decode cX14_batch 158 = .ok (.iconst 0, 1) := by decide +kernel
theorem dX14_batch_159 : decode cX14_batch 159 = .ok (.istore 4, 2) := by decide +kernel
theorem dX14_batch_161 : decode cX14_batch 161 = .ok (.iload 4, 2) := by decide +kernel
theorem dX14_batch_163 : decode cX14_batch 163 = .ok (.iload_n 2, 1) := by decide +kernel
theorem dX14_batch_164 : decode cX14_batch 164 = .ok (.if_icmp .ge 26, 3) := by decide +kernel
theorem dX14_batch_167 : decode cX14_batch 167 = .ok (.aload_n 0, 1) := by decide +kernel
theorem dX14_batch_168 : decode cX14_batch 168 = .ok (.getfield 151, 3) := by decide +kernel
theorem dX14_batch_171 : decode cX14_batch 171 = .ok (.getfield 529, 3) := by decide +kernel
theorem dX14_batch_174 : decode cX14_batch 174 = .ok (.iload 4, 2) := by decide +kernel
theorem dX14_batch_176 : decode cX14_batch 176 = .ok (.aload_n 0, 1) := by decide +kernel
theorem dX14_batch_177 : decode cX14_batch 177 = .ok (.getfield 78, 3) := by decide +kernel
theorem dX14_batch_180 : decode cX14_batch 180 = .ok (.iload 4, 2) := by decide +kernel
theorem dX14_batch_182 : decode cX14_batch 182 = .ok (.iaload, 1) := by decide +kernel
theorem dX14_batch_183 : decode cX14_batch 183 = .ok (.iastore, 1) := by decide +kernel
theorem dX14_batch_184 : decode cX14_batch 184 = .ok (.iinc 4 1, 3) := by decide +kernel
theorem dX14_batch_187 : decode cX14_batch 187 = .ok (.goto (-26), 3) := by decide +kernel
theorem dX14_batch_190 : decode cX14_batch 190 = .ok (.aload_n 0, 1) := by decide +kernel
theorem dX14_batch_191 : decode cX14_batch 191 = .ok (.getfield 151, 3) := by decide +kernel
theorem dX14_batch_194 : decode cX14_batch 194 = .ok (.invokestatic 534, 3) := by decide +kernel
theorem dX14_batch_197 : decode cX14_batch 197 = .ok (.aload_n 0, 1) := by decide +kernel
theorem dX14_batch_198 : decode cX14_batch 198 = .ok (.getfield 122, 3) := by decide +kernel
theorem dX14_batch_201 : decode cX14_batch 201 = .ok (.invokevirtual 627, 3) := by decide +kernel
theorem dX14_batch_204 : decode cX14_batch 204 = .ok (.iconst 0, 1) := by decide +kernel
theorem dX14_batch_205 : decode cX14_batch 205 = .ok (.istore 4, 2) := by decide +kernel
theorem dX14_batch_207 : decode cX14_batch 207 = .ok (.iload 4, 2) := by decide +kernel
theorem dX14_batch_209 : decode cX14_batch 209 = .ok (.aload_n 0, 1) := by decide +kernel
theorem dX14_batch_210 : decode cX14_batch 210 = .ok (.getfield 151, 3) := by decide +kernel
theorem dX14_batch_213 : decode cX14_batch 213 = .ok (.getfield 587, 3) := by decide +kernel
theorem dX14_batch_216 : decode cX14_batch 216 = .ok (.if_icmp .ge 105, 3) := by decide +kernel
theorem dX14_batch_219 : decode cX14_batch 219 = .ok (.aload_n 0, 1) := by decide +kernel
theorem dX14_batch_220 : decode cX14_batch 220 = .ok (.getfield 151, 3) := by decide +kernel
theorem dX14_batch_223 : decode cX14_batch 223 = .ok (.getfield 751, 3) := by decide +kernel
theorem dX14_batch_226 : decode cX14_batch 226 = .ok (.iload 4, 2) := by decide +kernel
theorem dX14_batch_228 : decode cX14_batch 228 = .ok (.aload_n 0, 1) := by decide +kernel
theorem dX14_batch_229 : decode cX14_batch 229 = .ok (.getfield 122, 3) := by decide +kernel
theorem dX14_batch_232 : decode cX14_batch 232 = .ok (.aload_n 0, 1) := by decide +kernel
theorem dX14_batch_233 : decode cX14_batch 233 = .ok (.getfield 151, 3) := by decide +kernel
theorem dX14_batch_236 : decode cX14_batch 236 = .ok (.getfield 529, 3) := by decide +kernel
theorem dX14_batch_239 : decode cX14_batch 239 = .ok (.aload_n 0, 1) := by decide +kernel
theorem dX14_batch_240 : decode cX14_batch 240 = .ok (.getfield 151, 3) := by decide +kernel
theorem dX14_batch_243 : decode cX14_batch 243 = .ok (.getfield 596, 3) := by decide +kernel
theorem dX14_batch_246 : decode cX14_batch 246 = .ok (.iload 4, 2) := by decide +kernel
theorem dX14_batch_248 : decode cX14_batch 248 = .ok (.iaload, 1) := by decide +kernel
theorem dX14_batch_249 : decode cX14_batch 249 = .ok (.aload_n 0, 1) := by decide +kernel
theorem dX14_batch_250 : decode cX14_batch 250 = .ok (.getfield 151, 3) := by decide +kernel
theorem dX14_batch_253 : decode cX14_batch 253 = .ok (.getfield 594, 3) := by decide +kernel
theorem dX14_batch_256 : decode cX14_batch 256 = .ok (.iload 4, 2) := by decide +kernel
theorem dX14_batch_258 : decode cX14_batch 258 = .ok (.iaload, 1) := by decide +kernel
theorem dX14_batch_259 : decode cX14_batch 259 = .ok (.aload_n 0, 1) := by decide +kernel
theorem dX14_batch_260 : decode cX14_batch 260 = .ok (.getfield 151, 3) := by decide +kernel
theorem dX14_batch_263 : decode cX14_batch 263 = .ok (.getfield 599, 3) := by decide +kernel
theorem dX14_batch_266 : decode cX14_batch 266 = .ok (.iload 4, 2) := by decide +kernel
theorem dX14_batch_268 : decode cX14_batch 268 = .ok (.iaload, 1) := by decide +kernel
theorem dX14_batch_269 : decode cX14_batch 269 = .ok (.invokevirtual 629, 3) := by decide +kernel
theorem dX14_batch_272 : decode cX14_batch 272 = .ok (.iastore, 1) := by decide +kernel
theorem dX14_batch_273 : decode cX14_batch 273 = .ok (.aload_n 0, 1) := by decide +kernel
theorem dX14_batch_274 : decode cX14_batch 274 = .ok (.getfield 154, 3) := by decide +kernel
theorem dX14_batch_277 : decode cX14_batch 277 = .ok (.iload 4, 2) := by decide +kernel
theorem dX14_batch_279 : decode cX14_batch 279 = .ok (.aload_n 0, 1) := by decide +kernel
theorem dX14_batch_280 : decode cX14_batch 280 = .ok (.getfield 122, 3) := by decide +kernel
theorem dX14_batch_283 : decode cX14_batch 283 = .ok (.getfield 637, 3) := by decide +kernel
theorem dX14_batch_286 : decode cX14_batch 286 = .ok (.ifCond .eq 13, 3) := by decide +kernel
theorem dX14_batch_289 : decode cX14_batch 289 = .ok (.aload_n 0, 1) := by decide +kernel
theorem dX14_batch_290 : decode cX14_batch 290 = .ok (.getfield 122, 3) := by decide +kernel
theorem dX14_batch_293 : decode cX14_batch 293 = .ok (.getfield 653, 3) := by decide +kernel
theorem dX14_batch_296 : decode cX14_batch 296 = .ok (.goto 4, 3) := by decide +kernel
theorem dX14_batch_299 : decode cX14_batch 299 = .ok (.iconst (-1), 1) := by decide +kernel
theorem dX14_batch_300 : decode cX14_batch 300 = .ok (.iastore, 1) := by decide +kernel
theorem dX14_batch_301 : decode cX14_batch 301 = .ok (.aload_n 0, 1) := by decide +kernel
theorem dX14_batch_302 : decode cX14_batch 302 = .ok (.getfield 157, 3) := by decide +kernel
theorem dX14_batch_305 : decode cX14_batch 305 = .ok (.iload 4, 2) := by decide +kernel
theorem dX14_batch_307 : decode cX14_batch 307 = .ok (.aload_n 0, 1) := by decide +kernel
theorem dX14_batch_308 : decode cX14_batch 308 = .ok (.getfield 122, 3) := by decide +kernel
theorem dX14_batch_311 : decode cX14_batch 311 = .ok (.getfield 661, 3) := by decide +kernel
theorem dX14_batch_314 : decode cX14_batch 314 = .ok (.iastore, 1) := by decide +kernel
theorem dX14_batch_315 : decode cX14_batch 315 = .ok (.iinc 4 1, 3) := by decide +kernel
theorem dX14_batch_318 : decode cX14_batch 318 = .ok (.goto (-111), 3) := by decide +kernel
theorem dX14_batch_321 : decode cX14_batch 321 = .ok (.aload_n 0, 1) := by decide +kernel
theorem dX14_batch_322 : decode cX14_batch 322 = .ok (.getfield 151, 3) := by decide +kernel
theorem dX14_batch_325 : decode cX14_batch 325 = .ok (.getfield 587, 3) := by decide +kernel
theorem dX14_batch_328 : decode cX14_batch 328 = .ok (.ireturn, 1) := by decide +kernel
def EX14_batch : List (Nat × Nat) := [(14, 4), (14, 5), (15, 5), (15, 7), (15, 10), (15, 11), (15, 15), (15, 18), (15, 19), (15, 20), (15, 21), (15, 30), (15, 31), (15, 32), (15, 33), (15, 34), (15, 36), (15, 38), (15, 39), (15, 40), (15, 41), (15, 42), (16, 1), (16, 33), (101, 0), (103, 0), (150, 0), (151, 0), (152, 0), (153, 0), (154, 0), (155, 0), (156, 0), (157, 0), (158, 0), (159, 0), (160, 0), (161, 0), (162, 0), (163, 0), (165, 0), (166, 0), (167, 0), (168, 0), (169, 0), (190, 0), (191, 0), (192, 0), (193, 0)]
set_option maxHeartbeats 4000000 in
set_option maxRecDepth 20000 in
theorem uX14_batch (l : Launch) (dC : Nat → ClassId) (dI : Nat → Nat → Nat) (ca : Nat → ClassId) (base : Nat) (B : jF) (hB : jBok B) (hAp : jAp (dC, dI)) (hB14 : ∀ n G a H, B 14 n G a H ↔ jOb (dC, dI) 14 11 (F14 n G) a H) (hB15 : ∀ n G a H, B 15 n G a H ↔ jOb (dC, dI) 15 50 (F15 n G) a H) (hB16 : ∀ n G a H, B 16 n G a H ↔ jOb (dC, dI) 16 74 (F16 n G) a H) (hB101 : ∀ n G a H, B 101 n G a H ↔ jAr (dC, dI) (ca 1) (fun j z => True) n a H) (hB103 : ∀ n G a H, B 103 n G a H ↔ jAr (dC, dI) (ca 3) (fun j z => (z = 0 ∨ z = 1)) n a H) (hB110 : ∀ n G a H, B 110 n G a H ↔ jAr (dC, dI) (ca 1) (fun j z => 0 ≤ z.toInt ∧ z.toInt ≤ 255) n a H) (hB150 : ∀ n G a H, B 150 n G a H ↔ jAr (dC, dI) (ca 1) (fun j z => True) n a H) (hB151 : ∀ n G a H, B 151 n G a H ↔ jAr (dC, dI) (ca 1) (fun j z => True) n a H) (hB152 : ∀ n G a H, B 152 n G a H ↔ jAr (dC, dI) (ca 1) (fun j z => True) n a H) (hB153 : ∀ n G a H, B 153 n G a H ↔ jAr (dC, dI) (ca 1) (fun j z => True) n a H) (hB154 : ∀ n G a H, B 154 n G a H ↔ jAr (dC, dI) (ca 1) (fun j z => True) n a H) (hB155 : ∀ n G a H, B 155 n G a H ↔ jAr (dC, dI) (ca 1) (fun j z => 0 ≤ z.toInt ∧ z.toInt ≤ 11990) n a H) (hB156 : ∀ n G a H, B 156 n G a H ↔ jAr (dC, dI) (ca 1) (fun j z => 0 ≤ z.toInt ∧ z.toInt ≤ 10) n a H) (hB157 : ∀ n G a H, B 157 n G a H ↔ jAr (dC, dI) (ca 1) (fun j z => 0 ≤ z.toInt ∧ z.toInt ≤ 1599) n a H) (hB158 : ∀ n G a H, B 158 n G a H ↔ jAr (dC, dI) (ca 1) (fun j z => 0 ≤ z.toInt ∧ z.toInt ≤ 6) n a H) (hB159 : ∀ n G a H, B 159 n G a H ↔ jAr (dC, dI) (ca 1) (fun j z => 0 ≤ z.toInt ∧ z.toInt ≤ 8) n a H) (hB160 : ∀ n G a H, B 160 n G a H ↔ jAr (dC, dI) (ca 1) (fun j z => 0 ≤ z.toInt ∧ z.toInt ≤ 119999) n a H) (hB161 : ∀ n G a H, B 161 n G a H ↔ jAr (dC, dI) (ca 1) (fun j z => 0 ≤ z.toInt ∧ z.toInt ≤ 119999) n a H) (hB162 : ∀ n G a H, B 162 n G a H ↔ jAr (dC, dI) (ca 1) (fun j z => 0 ≤ z.toInt ∧ z.toInt ≤ 119999) n a H) (hB163 : ∀ n G a H, B 163 n G a H ↔ jAr (dC, dI) (ca 1) (fun j z => 0 ≤ z.toInt ∧ z.toInt ≤ 1599) n a H) (hB165 : ∀ n G a H, B 165 n G a H ↔ jAr (dC, dI) (ca 1) (fun j z => 0 ≤ z.toInt ∧ z.toInt ≤ 3) n a H) (hB166 : ∀ n G a H, B 166 n G a H ↔ jAr (dC, dI) (ca 1) (fun j z => True) n a H) (hB167 : ∀ n G a H, B 167 n G a H ↔ jAr (dC, dI) (ca 1) (fun j z => True) n a H) (hB168 : ∀ n G a H, B 168 n G a H ↔ jAr (dC, dI) (ca 1) (fun j z => 0 ≤ z.toInt ∧ z.toInt ≤ 119999) n a H) (hB169 : ∀ n G a H, B 169 n G a H ↔ jAr (dC, dI) (ca 1) (fun j z => True) n a H) (hB190 : ∀ n G a H, B 190 n G a H ↔ jAr (dC, dI) (ca 1) (fun j z => 0 ≤ z.toInt ∧ z.toInt ≤ 1500) n a H) (hB191 : ∀ n G a H, B 191 n G a H ↔ jAr (dC, dI) (ca 1) (fun j z => 0 ≤ z.toInt ∧ z.toInt ≤ 1500) n a H) (hB192 : ∀ n G a H, B 192 n G a H ↔ jAr (dC, dI) (ca 1) (fun j z => 0 ≤ z.toInt ∧ z.toInt ≤ 2) n a H) (hB193 : ∀ n G a H, B 193 n G a H ↔ jAr (dC, dI) (ca 1) (fun j z => True) n a H) (G0 : jT) (H0 : Heap) (r0 : Nat) (a1 : Int32) (kr : Nat) (zf : Nat) (zg : Nat) (zh : Nat) (zp : Nat) (dd : Nat) (dc : Int32) (co : Nat) (cs : Nat) (ol : Nat) (nw : Nat) (td : Nat) (zs : Nat) (zn : Nat) (za : Nat) (zb : Nat) (zc : Nat) (zy : Nat) (sn ck : Nat → Int32) (fd fo : Nat → Option Nat) (ff : Nat → Int32) (fg : Nat → Int32) (fh : Nat → Int32) (fp : Nat → Int32) (fs : Nat → Int32) (C : jK) : Met l yX14_batch (jw yX14_batch cX14_batch 6 (some .int)) ({ frames := 1704, cells := 0, slots := 0, locals := 71908 }) (va_Pc [.ref r0, .int a1] (fun U => U.heap = H0 ∧ jX B base G0 [] H0 ∧ jG dC dI ca base U ∧ G0 r0 = some (16, 0) ∧ G0 kr = some (15, 0) ∧ G0 zf = some (160, 16) ∧ G0 zg = some (161, 46) ∧ G0 zh = some (159, 46) ∧ G0 zp = some (162, 368) ∧ G0 dd = some (201, 3) ∧ G0 co = some (208, 2) ∧ G0 cs = some (207, 2) ∧ G0 ol = some (14, 0) ∧ G0 nw = some (14, 0) ∧ G0 td = some (14, 0) ∧ G0 zs = some (150, 120000) ∧ G0 zn = some (151, 120000) ∧ G0 za = some (152, 120000) ∧ G0 zb = some (153, 120000) ∧ G0 zc = some (154, 120000) ∧ G0 zy = some (165, 16) ∧ jP (dC, dI) G0 H0 [(r0, 16, 58, .ref kr), (kr, 15, 17, .ref zf), (kr, 15, 22, .ref zg), (kr, 15, 25, .ref zh), (kr, 15, 27, .ref zp), (r0, 16, 41, .ref dd), (r0, 16, 42, .int dc), (r0, 16, 60, .ref co), (r0, 16, 61, .ref cs), (r0, 16, 46, .ref ol), (r0, 16, 47, .ref nw), (r0, 16, 71, .ref td), (kr, 15, 0, .ref zs), (kr, 15, 1, .ref zn), (kr, 15, 2, .ref za), (kr, 15, 3, .ref zb), (kr, 15, 4, .ref zc), (kr, 15, 14, .ref zy)] ∧ jMc (dC, dI) G0 H0 [(zf, 160, 16, ca 1, ff), (zg, 161, 46, ca 1, fg), (zh, 159, 46, ca 1, fh), (zp, 162, 368, ca 1, fp), (cs, 207, 2, ca 1, fs), (zs, 150, 120000, ca 1, C.s), (zn, 151, 120000, ca 1, C.n), (za, 152, 120000, ca 1, C.a), (zb, 153, 120000, ca 1, C.b), (zc, 154, 120000, ca 1, C.c), (zy, 165, 16, ca 1, C.y)] ∧ jIs (dC, dI) G0 H0 [(jFs, jDY dC dI ca G0 none sn), (jF9, jVl dC dI G0 9 ck), ([(201, 0)], jQc dC dI (ca 4) dd 3 fd), ([(208, 0)], jQc dC dI (ca 4) co 2 fo)] ∧ jPu sn ck fd fo fs dc.toInt ol nw td)) (va_Qi (S := (Nat → Int32) × (Nat → Int32) × (Nat → Int32) × (Nat → Int32) × jK) (fun r u => (True)) (fun u t => (jRt (dC, dI) B base G0 EX14_batch H0 [] t.heap ∧ jMc (dC, dI) G0 t.heap [(zf, 160, 16, ca 1, u.1), (zg, 161, 46, ca 1, u.2.1), (zh, 159, 46, ca 1, u.2.2.1), (zp, 162, 368, ca 1, u.2.2.2.1), (zs, 150, 120000, ca 1, u.2.2.2.2.s), (zn, 151, 120000, ca 1, u.2.2.2.2.n), (za, 152, 120000, ca 1, u.2.2.2.2.a), (zb, 153, 120000, ca 1, u.2.2.2.2.b), (zc, 154, 120000, ca 1, u.2.2.2.2.c), (zy, 165, 16, ca 1, u.2.2.2.2.y)]) ∧ jDV dC dI ca G0 r0 dd co cs ol nw td t.heap) (jA base)) 0 0 (jA base) := by
  refine Met.ofW (cc := cX14_batch) (maxL := 6) (ret := (some .int)) (by decide) rfl ?_
  intro p e s m args below meth c s₁ Bd hml hv
  obtain ⟨rfl, hH0, hX, hG, hg_r0, hg_kr, hg_zf, hg_zg, hg_zh, hg_zp, hg_dd, hg_co, hg_cs, hg_ol, hg_nw, hg_td, hg_zs, hg_zn, hg_za, hg_zb, hg_zc, hg_zy, hP0, hM0, hI0, hp0⟩ := hv
  have hK := hG.1
  have hx := Bd.exec
  have hb := Bd.bytes
  have hr := Bd.returns
  have hts := atoms_spec (ws := (jw yX14_batch cX14_batch 6 (some .int))) Bd.pre
  have htw : ∀ w ∈ jWl, w.before _ s = true := fun w h => hts w (List.mem_cons_of_mem _ h)
  have hown : s.vm.findClass RX14 = some m.cls := findClass_of_methodNamed Bd.named
  have hlocks := Bd.notSynchronized
  obtain ⟨Q, hQ⟩ : ∃ Q, Q = MQ below (va_Qi (S := (Nat → Int32) × (Nat → Int32) × (Nat → Int32) × (Nat → Int32) × jK) (fun r u => (True)) (fun u t => (jRt (dC, dI) B base G0 EX14_batch H0 [] t.heap ∧ jMc (dC, dI) G0 t.heap [(zf, 160, 16, ca 1, u.1), (zg, 161, 46, ca 1, u.2.1), (zh, 159, 46, ca 1, u.2.2.1), (zp, 162, 368, ca 1, u.2.2.2.1), (zs, 150, 120000, ca 1, u.2.2.2.2.s), (zn, 151, 120000, ca 1, u.2.2.2.2.n), (za, 152, 120000, ca 1, u.2.2.2.2.a), (zb, 153, 120000, ca 1, u.2.2.2.2.b), (zc, 154, 120000, ca 1, u.2.2.2.2.c), (zy, 165, 16, ca 1, u.2.2.2.2.y)]) ∧ jDV dC dI ca G0 r0 dd co cs ol nw td t.heap) (jA base)) ([.ref r0, .int a1] : List Value).toArray s 0 0 (jA base) := ⟨_, rfl⟩
  rw [← hQ]
  have hl := lv_entry ([.ref r0, .int a1]) (n := 6) (Nat.le_of_ble_eq_true rfl)
  rw [lg_entry_eq]
  generalize (lg_sl ([.ref r0, .int a1]) ++ List.replicate (6 - (lg_sl ([.ref r0, .int a1])).length) Slot.unset).toArray = ls at hl ⊢
  have hl : lv_has ls 6 [(0, .ref r0), (1, .int a1)] := hl
  generalize hR : (headSpec (jw yX14_batch cX14_batch 6 (some .int)) ({ frames := 1704, cells := 0, slots := 0, locals := 71908 })).room = R
  subst hH0
  have hh : jSt (dC, dI) B base G0 G0 EX14_batch s.heap 0 0 [(r0, 16, 58, .ref kr), (kr, 15, 17, .ref zf), (kr, 15, 22, .ref zg), (kr, 15, 25, .ref zh), (kr, 15, 27, .ref zp), (r0, 16, 41, .ref dd), (r0, 16, 42, .int dc), (r0, 16, 60, .ref co), (r0, 16, 61, .ref cs), (r0, 16, 46, .ref ol), (r0, 16, 47, .ref nw), (r0, 16, 71, .ref td), (kr, 15, 0, .ref zs), (kr, 15, 1, .ref zn), (kr, 15, 2, .ref za), (kr, 15, 3, .ref zb), (kr, 15, 4, .ref zc), (kr, 15, 14, .ref zy)] [(zf, 160, 16, ca 1, ff), (zg, 161, 46, ca 1, fg), (zh, 159, 46, ca 1, fh), (zp, 162, 368, ca 1, fp), (cs, 207, 2, ca 1, fs), (zs, 150, 120000, ca 1, C.s), (zn, 151, 120000, ca 1, C.n), (za, 152, 120000, ca 1, C.a), (zb, 153, 120000, ca 1, C.b), (zc, 154, 120000, ca 1, C.c), (zy, 165, 16, ca 1, C.y)] [(jFs, jDY dC dI ca G0 none sn), (jF9, jVl dC dI G0 9 ck), ([(201, 0)], jQc dC dI (ca 4) dd 3 fd), ([(208, 0)], jQc dC dI (ca 4) co 2 fo)] s.heap [] := jSt.start hX hP0 hM0 hI0
  clear hX hP0
  have hkm2 : ((-2) : Int32).toInt = (-2) := by decide
  have hkm1 : ((-1) : Int32).toInt = (-1) := by decide
  have hk0 : (0 : Int32).toInt = 0 := by decide
  have hk1 : (1 : Int32).toInt = 1 := by decide
  have hk2 : (2 : Int32).toInt = 2 := by decide
  have hk10 : (10 : Int32).toInt = 10 := by decide
  have hk1023 : (1023 : Int32).toInt = 1023 := by decide
  have hk1500 : (1500 : Int32).toInt = 1500 := by decide
  have hk55296 : (55296 : Int32).toInt = 55296 := by decide
  have hk56320 : (56320 : Int32).toInt = 56320 := by decide
  have hk65533 : (65533 : Int32).toInt = 65533 := by decide
  have hk65535 : (65535 : Int32).toInt = 65535 := by decide
  have hk65536 : (65536 : Int32).toInt = 65536 := by decide
  have hly_14_3 := htw (u_lay RX12 TX12 3) (jWc_wsX120 _ (u_in_lay (by decide)))
  have hly_14_4 := htw (u_lay RX12 TX12 4) (jWc_wsX120 _ (u_in_lay (by decide)))
  have hly_14_5 := htw (u_lay RX12 TX12 5) (jWc_wsX120 _ (u_in_lay (by decide)))
  have hly_14_6 := htw (u_lay RX12 TX12 6) (jWc_wsX120 _ (u_in_lay (by decide)))
  have hly_14_7 := htw (u_lay RX12 TX12 7) (jWc_wsX120 _ (u_in_lay (by decide)))
  have hly_14_8 := htw (u_lay RX12 TX12 8) (jWc_wsX120 _ (u_in_lay (by decide)))
  have hly_14_10 := htw (u_lay RX12 TX12 10) (jWc_wsX120 _ (u_in_lay (by decide)))
  have hly_15_15 := htw (u_lay RX13 TX13 15) (jWc_wsX130 _ (u_in_lay (by decide)))
  have hly_15_18 := htw (u_lay RX13 TX13 18) (jWc_wsX130 _ (u_in_lay (by decide)))
  have hly_15_21 := htw (u_lay RX13 TX13 21) (jWc_wsX130 _ (u_in_lay (by decide)))
  have hly_16_0 := htw (u_lay RX14 TX14 0) (jWc_wsX140 _ (u_in_lay (by decide)))
  have hly_16_1 := htw (u_lay RX14 TX14 1) (jWc_wsX140 _ (u_in_lay (by decide)))
  have hly_16_33 := htw (u_lay RX14 TX14 33) (jWc_wsX140 _ (u_in_lay (by decide)))
  have hly_16_43 := htw (u_lay RX14 TX14 43) (jWc_wsX140 _ (u_in_lay (by decide)))
  have hly_16_58 := htw (u_lay RX14 TX14 58) (jWc_wsX140 _ (u_in_lay (by decide)))
  have hly_16_71 := htw (u_lay RX14 TX14 71) (jWc_wsX140 _ (u_in_lay (by decide)))
  have hly_16_72 := htw (u_lay RX14 TX14 72) (jWc_wsX140 _ (u_in_lay (by decide)))
  have hly_16_73 := htw (u_lay RX14 TX14 73) (jWc_wsX140 _ (u_in_lay (by decide)))
  have hlk_217 := (htw (.fieldLink RX14 217 "ProofServerModel" "taped" "I") (jWr_17 _ (List.mem_of_getElem? (i := 2) rfl)))
  have hlk_9 := (htw (.fieldLink RX14 9 "ProofServerModel" "tape" "[I") (jWr_10 _ (List.mem_of_getElem? (i := 17) rfl)))
  have hcs_201 := htw (.constant RX14 201 65533) (jWr_54 _ (List.mem_of_getElem? (i := 10) rfl))
  have hlk_357 := (htw (.fieldLink RX14 357 "ProofServerModel" "utfChar" "I") (jWr_51 _ (List.mem_of_getElem? (i := 11) rfl)))
  have hlk_78 := (htw (.fieldLink RX14 78 "ProofServerModel" "changed" "[I") (jWr_11 _ (List.mem_of_getElem? (i := 20) rfl)))
  have hcs_333 := htw (.constant RX14 333 65535) (jWr_52 _ (List.mem_of_getElem? (i := 1) rfl))
  have hcs_179 := htw (.constant RX14 179 55296) (jWr_51 _ (List.mem_of_getElem? (i := 18) rfl))
  have hcs_197 := htw (.constant RX14 197 65536) (jWr_52 _ (List.mem_of_getElem? (i := 2) rfl))
  have hcs_185 := htw (.constant RX14 185 56320) (jWr_51 _ (List.mem_of_getElem? (i := 16) rfl))
  have hlk_151 := (htw (.fieldLink RX14 151 "ProofServerModel" "told" "LProofServerModel$Document;") (jWr_12 _ (List.mem_of_getElem? (i := 23) rfl)))
  have hlk_526 := (va_Nw.use (A := ([.ref r0, .int a1] : List Value).toArray) rfl (hG.2.1 RX14 526 "ProofServerModel$Document" "units" "I" "ProofServerModel" (List.mem_of_getElem? (i := 1736) (by decide +kernel))))
  have hlk_529 := (va_Nw.use (A := ([.ref r0, .int a1] : List Value).toArray) rfl (hG.2.1 RX14 529 "ProofServerModel$Document" "text" "[I" "ProofServerModel" (List.mem_of_getElem? (i := 1735) (by decide +kernel))))
  have hlk_122 := (htw (.fieldLink RX14 122 "ProofServerModel" "kernel" "LProofServerModel$Kernel;") (jWr_12 _ (List.mem_of_getElem? (i := 13) rfl)))
  have hlk_587 := (va_Nw.use (A := ([.ref r0, .int a1] : List Value).toArray) rfl (hG.2.1 RX14 587 "ProofServerModel$Document" "sentences" "I" "ProofServerModel" (List.mem_of_getElem? (i := 1737) (by decide +kernel))))
  have hlk_751 := (va_Nw.use (A := ([.ref r0, .int a1] : List Value).toArray) rfl (hG.2.1 RX14 751 "ProofServerModel$Document" "fault" "[I" "ProofServerModel" (List.mem_of_getElem? (i := 1746) (by decide +kernel))))
  have hlk_596 := (va_Nw.use (A := ([.ref r0, .int a1] : List Value).toArray) rfl (hG.2.1 RX14 596 "ProofServerModel$Document" "begin" "[I" "ProofServerModel" (List.mem_of_getElem? (i := 1739) (by decide +kernel))))
  have hlk_594 := (va_Nw.use (A := ([.ref r0, .int a1] : List Value).toArray) rfl (hG.2.1 RX14 594 "ProofServerModel$Document" "end" "[I" "ProofServerModel" (List.mem_of_getElem? (i := 1741) (by decide +kernel))))
  have hlk_599 := (va_Nw.use (A := ([.ref r0, .int a1] : List Value).toArray) rfl (hG.2.1 RX14 599 "ProofServerModel$Document" "flaw" "[I" "ProofServerModel" (List.mem_of_getElem? (i := 1743) (by decide +kernel))))
  have hlk_154 := (htw (.fieldLink RX14 154 "ProofServerModel" "toldGoals" "[I") (jWr_13 _ (List.mem_of_getElem? (i := 0) rfl)))
  have hlk_637 := (va_Nw.use (A := ([.ref r0, .int a1] : List Value).toArray) rfl (hG.2.1 RX14 637 "ProofServerModel$Kernel" "proof" "Z" "ProofServerModel" (List.mem_of_getElem? (i := 1808) (by decide +kernel))))
  have hlk_653 := (va_Nw.use (A := ([.ref r0, .int a1] : List Value).toArray) rfl (hG.2.1 RX14 653 "ProofServerModel$Kernel" "goals" "I" "ProofServerModel" (List.mem_of_getElem? (i := 1813) (by decide +kernel))))
  have hlk_157 := (htw (.fieldLink RX14 157 "ProofServerModel" "toldFacts" "[I") (jWr_13 _ (List.mem_of_getElem? (i := 1) rfl)))
  have hlk_661 := (va_Nw.use (A := ([.ref r0, .int a1] : List Value).toArray) rfl (hG.2.1 RX14 661 "ProofServerModel$Kernel" "facts" "I" "ProofServerModel" (List.mem_of_getElem? (i := 1802) (by decide +kernel))))
  have hrg_a1 := jb_rng a1
  refine lv_iload_n hx hb dX14_batch_0 rfl (lv_at hl 1 rfl) ?_
  refine lv_if_lt (tgt := 12) hx hb dX14_batch_1 (by decide) (fun c_1 => ?_) (fun c_1 => ?_)
  · skip
    have c_1' : a1.toInt < 0 := jb_lt (rfl) ((by decide)) c_1
    refine lv_iconst (v := (-1)) hx hb dX14_batch_12 (by decide) ?_
    rw [hQ]
    exact W.iret (v := (-1)) hx hb hr (fun t ht hW => ⟨⟨(-1), (ff, fg, fh, fp, C), rfl, trivial, ⟨⟨hh.rt (M1 := []) [] rfl ht, by rw [ht]; exact hh.2.2.2.2.2.2.2.1.sub [0, 1, 2, 3, 5, 6, 7, 8, 9, 10] rfl⟩, by rw [ht]; exact ⟨sn, ck, fs, fd, fo, dc, hh.2.2.1.sub (L1 := [(r0, 16, 41, .ref dd), (r0, 16, 42, .int dc), (r0, 16, 60, .ref co), (r0, 16, 61, .ref cs), (r0, 16, 46, .ref ol), (r0, 16, 47, .ref nw), (r0, 16, 71, .ref td)]) [5, 6, 7, 8, 9, 10, 11] rfl, hh.2.2.2.2.2.2.2.1.sub (L1 := [(cs, 207, 2, ca 1, fs)]) [4] rfl, hh.2.2.2.2.2.2.2.2.sub (L1 := [(jFs, jDY dC dI ca G0 none sn), (jF9, jVl dC dI G0 9 ck), ([(201, 0)], jQc dC dI (ca 4) dd 3 fd), ([(208, 0)], jQc dC dI (ca 4) co 2 fo)]) [0, 1, 2, 3] rfl, hp0⟩⟩⟩, by rw [ht]; try exact hh.1.1, fun q h9 hq => by rw [ht]; try exact hh.1.2.1 q h9 hq⟩) hh.1.2.2 dX14_batch_13
  · skip
    have c_1' : a1.toInt ≥ 0 := jb_lt_n (rfl) ((by decide)) c_1
    refine lv_iload_n hx hb dX14_batch_4 rfl (lv_at hl 1 rfl) ?_
    refine lv_aload_n hx hb dX14_batch_5 rfl (lv_at hl 0 rfl) ?_
    obtain ⟨v_2, hv_2, hh_3⟩ := hh.pin (C := RX14) (T := TX14) (N := 74) hB16 rfl (by decide) hg_r0 (i := 1) (by decide) rfl
    clear hh
    obtain ⟨taped_4, rfl, hlotaped_4, hhitaped_4⟩ := hv_2
    refine j7_read hx hb hown hK (C := RX14) (T := TX14) (N := 74) rfl hly_16_1 hlk_217 (hh_3.at 0 rfl) dX14_batch_6 ?_
    refine lv_icmp_le (tgt := 14) hx hb dX14_batch_9 (by decide) (fun c_5 => ?_) (fun c_5 => ?_)
    · skip
      have c_5' : a1.toInt ≤ taped_4.toInt := jb_le (rfl) (rfl) c_5
      refine lv_aload_n hx hb dX14_batch_14 rfl (lv_at hl 0 rfl) ?_
      refine lv_iconst (v := 0) hx hb dX14_batch_15 (by decide) ?_
      refine j7_put hx hb hown hK hh_3 hB hAp hB16 (C := RX14) (T := TX14) (N := 74) rfl (by decide) hg_r0 (i := 1) (by decide) hly_16_1 rfl hlk_217 rfl (ty := .int) (v := .int 0) (by decide +kernel) rfl rfl (⟨_, rfl, by omega, by omega⟩) rfl (L1 := [(r0, 16, 58, .ref kr), (kr, 15, 17, .ref zf), (kr, 15, 22, .ref zg), (kr, 15, 25, .ref zh), (kr, 15, 27, .ref zp), (r0, 16, 41, .ref dd), (r0, 16, 42, .int dc), (r0, 16, 60, .ref co), (r0, 16, 61, .ref cs), (r0, 16, 46, .ref ol), (r0, 16, 47, .ref nw), (r0, 16, 71, .ref td), (kr, 15, 0, .ref zs), (kr, 15, 1, .ref zn), (kr, 15, 2, .ref za), (kr, 15, 3, .ref zb), (kr, 15, 4, .ref zc), (kr, 15, 14, .ref zy)]) [1, 2, 3, 4, 5, 6, 7, 8, 9, 10, 11, 12, 13, 14, 15, 16, 17, 18] rfl rfl rfl dX14_batch_16 (fun H_6 locs_6 hh_6 => ?_)
      clear hh_3
      refine lv_iconst (v := 0) hx hb dX14_batch_19 (by decide) ?_
      refine lv_istore_n (lv' := [(2, .int 0), (0, .ref r0), (1, .int a1)]) hx hb dX14_batch_20 rfl hl (by decide) rfl (fun ls hl => ?_)
      refine lv_iconst (v := 0) hx hb dX14_batch_21 (by decide) ?_
      refine lv_istore_n (lv' := [(3, .int 0), (2, .int 0), (0, .ref r0), (1, .int a1)]) hx hb dX14_batch_22 rfl hl (by decide) rfl (fun ls hl => ?_)
      have L23 : ∀ (N : Nat) (v2_7 : Int32) (v3_7 : Int32) (H_7 : Heap) (locs_7 : List Loc), jSt (dC, dI) B base G0 G0 EX14_batch s.heap 0 0 [(r0, 16, 1, .int 0), (r0, 16, 58, .ref kr), (kr, 15, 17, .ref zf), (kr, 15, 22, .ref zg), (kr, 15, 25, .ref zh), (kr, 15, 27, .ref zp), (r0, 16, 41, .ref dd), (r0, 16, 42, .int dc), (r0, 16, 60, .ref co), (r0, 16, 61, .ref cs), (r0, 16, 46, .ref ol), (r0, 16, 47, .ref nw), (r0, 16, 71, .ref td), (kr, 15, 0, .ref zs), (kr, 15, 1, .ref zn), (kr, 15, 2, .ref za), (kr, 15, 3, .ref zb), (kr, 15, 4, .ref zc), (kr, 15, 14, .ref zy)] [(zf, 160, 16, ca 1, ff), (zg, 161, 46, ca 1, fg), (zh, 159, 46, ca 1, fh), (zp, 162, 368, ca 1, fp), (cs, 207, 2, ca 1, fs), (zs, 150, 120000, ca 1, C.s), (zn, 151, 120000, ca 1, C.n), (za, 152, 120000, ca 1, C.a), (zb, 153, 120000, ca 1, C.b), (zc, 154, 120000, ca 1, C.c), (zy, 165, 16, ca 1, C.y)] [(jFs, jDY dC dI ca G0 none sn), (jF9, jVl dC dI G0 9 ck), ([(201, 0)], jQc dC dI (ca 4) dd 3 fd), ([(208, 0)], jQc dC dI (ca 4) co 2 fo)] H_7 locs_7 → (0 ≤ v2_7.toInt ∧ v2_7.toInt ≤ 3100 ∧ 0 ≤ v3_7.toInt ∧ v3_7.toInt ≤ a1.toInt) → (a1.toInt - v3_7.toInt : Int) < N → ∀ ls : Array Slot, lv_has ls 6 [(0, .ref r0), (1, .int a1), (2, .int v2_7), (3, .int v3_7)] → W p l e R s m ([.ref r0, .int a1] : List Value).toArray below meth c H_7 locs_7 0 0 Q (F0 m 23 ls []) := by
        intro N
        induction N with
        | zero => intro v2_7 v3_7 H_7 locs_7 hh_7  hi_7 hm; exact absurd hm (by omega)
        | succ N L23 =>
          intro v2_7 v3_7 H_7 locs_7 hh_7  hi_7 hm_7 ls hl
          obtain ⟨hi_7_0, hi_7_1, hi_7_2, hi_7_3⟩ := hi_7
          refine lv_iload_n hx hb dX14_batch_23 rfl (lv_at hl 3 rfl) ?_
          refine lv_iload_n hx hb dX14_batch_24 rfl (lv_at hl 1 rfl) ?_
          have C140 : ∀ (v3_8 : Int32) (H_8 : Heap) (locs_8 : List Loc), jSt (dC, dI) B base G0 G0 EX14_batch s.heap 0 0 [(r0, 16, 1, .int 0), (r0, 16, 58, .ref kr), (kr, 15, 17, .ref zf), (kr, 15, 22, .ref zg), (kr, 15, 25, .ref zh), (kr, 15, 27, .ref zp), (r0, 16, 41, .ref dd), (r0, 16, 42, .int dc), (r0, 16, 60, .ref co), (r0, 16, 61, .ref cs), (r0, 16, 46, .ref ol), (r0, 16, 47, .ref nw), (r0, 16, 71, .ref td), (kr, 15, 0, .ref zs), (kr, 15, 1, .ref zn), (kr, 15, 2, .ref za), (kr, 15, 3, .ref zb), (kr, 15, 4, .ref zc), (kr, 15, 14, .ref zy)] [(zf, 160, 16, ca 1, ff), (zg, 161, 46, ca 1, fg), (zh, 159, 46, ca 1, fh), (zp, 162, 368, ca 1, fp), (cs, 207, 2, ca 1, fs), (zs, 150, 120000, ca 1, C.s), (zn, 151, 120000, ca 1, C.n), (za, 152, 120000, ca 1, C.a), (zb, 153, 120000, ca 1, C.b), (zc, 154, 120000, ca 1, C.c), (zy, 165, 16, ca 1, C.y)] [(jFs, jDY dC dI ca G0 none sn), (jF9, jVl dC dI G0 9 ck), ([(201, 0)], jQc dC dI (ca 4) dd 3 fd), ([(208, 0)], jQc dC dI (ca 4) co 2 fo)] H_8 locs_8 → (0 ≤ v2_7.toInt ∧ v2_7.toInt ≤ 3100) → ∀ ls : Array Slot, lv_has ls 6 [(0, .ref r0), (1, .int a1), (2, .int v2_7), (3, .int v3_8)] → W p l e R s m ([.ref r0, .int a1] : List Value).toArray below meth c H_8 locs_8 0 0 Q (F0 m 140 ls []) := by
            intro v3_8 H_8 locs_8 hh_8  hi_8 ls hl
            obtain ⟨hi_8_0, hi_8_1⟩ := hi_8
            refine lv_iload_n hx hb dX14_batch_140 rfl (lv_at hl 2 rfl) ?_
            refine lv_sipush (v := 1500) hx hb dX14_batch_141 (by decide) ?_
            refine lv_icmp_le (tgt := 150) hx hb dX14_batch_144 (by decide) (fun c_9 => ?_) (fun c_9 => ?_)
            · skip
              have c_9' : v2_7.toInt ≤ 1500 := jb_le (rfl) ((by decide)) c_9
              refine lv_aload_n hx hb dX14_batch_150 rfl (lv_at hl 0 rfl) ?_
              refine j7_read hx hb hown hK (C := RX14) (T := TX14) (N := 74) rfl hly_16_71 hlk_151 (hh_8.at 12 rfl) dX14_batch_151 ?_
              refine lv_iload_n hx hb dX14_batch_154 rfl (lv_at hl 2 rfl) ?_
              refine j7_putN hx hb hown hK hh_8 hB hAp hB14 (C := RX12) (T := TX12) (N := 11) rfl (by decide) hg_td (i := 4) (by decide) hly_14_4 rfl hlk_526 rfl (ty := .int) (v := .int v2_7) (by decide +kernel) rfl rfl (⟨_, rfl, by omega, by omega⟩) rfl (L1 := [(r0, 16, 1, .int 0), (r0, 16, 58, .ref kr), (kr, 15, 17, .ref zf), (kr, 15, 22, .ref zg), (kr, 15, 25, .ref zh), (kr, 15, 27, .ref zp), (r0, 16, 41, .ref dd), (r0, 16, 42, .int dc), (r0, 16, 60, .ref co), (r0, 16, 61, .ref cs), (r0, 16, 46, .ref ol), (r0, 16, 47, .ref nw), (r0, 16, 71, .ref td), (kr, 15, 0, .ref zs), (kr, 15, 1, .ref zn), (kr, 15, 2, .ref za), (kr, 15, 3, .ref zb), (kr, 15, 4, .ref zc), (kr, 15, 14, .ref zy)]) [0, 1, 2, 3, 4, 5, 6, 7, 8, 9, 10, 11, 12, 13, 14, 15, 16, 17, 18] rfl rfl rfl dX14_batch_155 (fun H_10 locs_10 hh_10 => ?_)
              clear hh_8
              refine lv_iconst (v := 0) hx hb dX14_batch_158 (by decide) ?_
              refine lv_istore (lv' := [(4, .int 0), (0, .ref r0), (1, .int a1), (2, .int v2_7), (3, .int v3_8)]) hx hb dX14_batch_159 hl (by decide) rfl (fun ls hl => ?_)
              have L161 : ∀ (N : Nat) (v4_11 : Int32) (H_11 : Heap) (locs_11 : List Loc), jSt (dC, dI) B base G0 G0 EX14_batch s.heap 0 0 [(td, 14, 4, .int v2_7), (r0, 16, 1, .int 0), (r0, 16, 58, .ref kr), (kr, 15, 17, .ref zf), (kr, 15, 22, .ref zg), (kr, 15, 25, .ref zh), (kr, 15, 27, .ref zp), (r0, 16, 41, .ref dd), (r0, 16, 42, .int dc), (r0, 16, 60, .ref co), (r0, 16, 61, .ref cs), (r0, 16, 46, .ref ol), (r0, 16, 47, .ref nw), (r0, 16, 71, .ref td), (kr, 15, 0, .ref zs), (kr, 15, 1, .ref zn), (kr, 15, 2, .ref za), (kr, 15, 3, .ref zb), (kr, 15, 4, .ref zc), (kr, 15, 14, .ref zy)] [(zf, 160, 16, ca 1, ff), (zg, 161, 46, ca 1, fg), (zh, 159, 46, ca 1, fh), (zp, 162, 368, ca 1, fp), (cs, 207, 2, ca 1, fs), (zs, 150, 120000, ca 1, C.s), (zn, 151, 120000, ca 1, C.n), (za, 152, 120000, ca 1, C.a), (zb, 153, 120000, ca 1, C.b), (zc, 154, 120000, ca 1, C.c), (zy, 165, 16, ca 1, C.y)] [(jFs, jDY dC dI ca G0 none sn), (jF9, jVl dC dI G0 9 ck), ([(201, 0)], jQc dC dI (ca 4) dd 3 fd), ([(208, 0)], jQc dC dI (ca 4) co 2 fo)] H_11 locs_11 → (0 ≤ v4_11.toInt ∧ v4_11.toInt ≤ 1500) → (1500 - v4_11.toInt : Int) < N → ∀ ls : Array Slot, lv_has ls 6 [(0, .ref r0), (1, .int a1), (2, .int v2_7), (3, .int v3_8), (4, .int v4_11)] → W p l e R s m ([.ref r0, .int a1] : List Value).toArray below meth c H_11 locs_11 0 0 Q (F0 m 161 ls []) := by
                intro N
                induction N with
                | zero => intro v4_11 H_11 locs_11 hh_11  hi_11 hm; exact absurd hm (by omega)
                | succ N L161 =>
                  intro v4_11 H_11 locs_11 hh_11  hi_11 hm_11 ls hl
                  obtain ⟨hi_11_0, hi_11_1⟩ := hi_11
                  refine lv_iload hx hb dX14_batch_161 (lv_at hl 4 rfl) ?_
                  refine lv_iload_n hx hb dX14_batch_163 rfl (lv_at hl 2 rfl) ?_
                  refine lv_icmp_ge (tgt := 190) hx hb dX14_batch_164 (by decide) (fun c_12 => ?_) (fun c_12 => ?_)
                  · skip
                    have c_12' : v4_11.toInt ≥ v2_7.toInt := jb_ge (rfl) (rfl) c_12
                    refine lv_aload_n hx hb dX14_batch_190 rfl (lv_at hl 0 rfl) ?_
                    refine j7_read hx hb hown hK (C := RX14) (T := TX14) (N := 74) rfl hly_16_71 hlk_151 (hh_11.at 13 rfl) dX14_batch_191 ?_
                    have hd_13 := jDY.less (hh_11.iv 0 rfl) td
                    have hh_14 := hh_11.sub (L1 := [(td, 14, 4, .int v2_7), (r0, 16, 1, .int 0), (r0, 16, 58, .ref kr), (kr, 15, 17, .ref zf), (kr, 15, 22, .ref zg), (kr, 15, 25, .ref zh), (kr, 15, 27, .ref zp), (r0, 16, 41, .ref dd), (r0, 16, 42, .int dc), (r0, 16, 60, .ref co), (r0, 16, 61, .ref cs), (r0, 16, 46, .ref ol), (r0, 16, 47, .ref nw), (r0, 16, 71, .ref td), (kr, 15, 0, .ref zs), (kr, 15, 1, .ref zn), (kr, 15, 2, .ref za), (kr, 15, 3, .ref zb), (kr, 15, 4, .ref zc), (kr, 15, 14, .ref zy)]) [0, 1, 2, 3, 4, 5, 6, 7, 8, 9, 10, 11, 12, 13, 14, 15, 16, 17, 18, 19] rfl (M1 := [(zf, 160, 16, ca 1, ff), (zg, 161, 46, ca 1, fg), (zh, 159, 46, ca 1, fh), (zp, 162, 368, ca 1, fp), (cs, 207, 2, ca 1, fs), (zs, 150, 120000, ca 1, C.s), (zn, 151, 120000, ca 1, C.n), (za, 152, 120000, ca 1, C.a), (zb, 153, 120000, ca 1, C.b), (zc, 154, 120000, ca 1, C.c), (zy, 165, 16, ca 1, C.y)]) [0, 1, 2, 3, 4, 5, 6, 7, 8, 9, 10] rfl (I1 := [(jF9, jVl dC dI G0 9 ck), ([(201, 0)], jQc dC dI (ca 4) dd 3 fd), ([(208, 0)], jQc dC dI (ca 4) co 2 fo)]) [1, 2, 3] rfl
                    clear hh_11
                    have hh_15 := hh_14.addI (jDY.ie hd_13)
                    clear hh_14
                    obtain ⟨v_18, hv_18, hh_19⟩ := hh_15.pin (C := RX12) (T := TX12) (N := 11) hB14 rfl (by decide) hg_td (i := 3) (by decide) rfl
                    obtain ⟨text_20, rfl, hg_text_20⟩ := hv_18
                    obtain ⟨v_21, hv_21, hh_22⟩ := hh_19.pin (C := RX12) (T := TX12) (N := 11) hB14 rfl (by decide) hg_td (i := 6) (by decide) rfl
                    obtain ⟨begin_23, rfl, hg_begin_23⟩ := hv_21
                    obtain ⟨v_24, hv_24, hh_25⟩ := hh_22.pin (C := RX12) (T := TX12) (N := 11) hB14 rfl (by decide) hg_td (i := 7) (by decide) rfl
                    obtain ⟨end_26, rfl, hg_end_26⟩ := hv_24
                    obtain ⟨f_ft_27, hh_27⟩ := hh_25.cpin hB101 (by decide) (by decide) hg_text_20
                    clear hh_25
                    obtain ⟨f_fb_28, hh_28⟩ := hh_27.cpin hB190 (by decide) (by decide) hg_begin_23
                    clear hh_27
                    obtain ⟨f_fe_29, hh_29⟩ := hh_28.cpin hB191 (by decide) (by decide) hg_end_26
                    clear hh_28
                    refine va_callv (A0 := jA base) (H0 := s.heap) (va_runS (As := [.ref td]) (rest := []) ⟨hx, hb, hml, hown, hts⟩ (uX14_partD l dC dI ca base B hB hAp hB14 hB101 hB190 hB191 hB192 G0 H_11 td text_20 v2_7 begin_23 end_26 sn f_ft_27 f_fb_28 f_fe_29) (va_cwS 1 hts (jgS (jWr_57 _ (List.mem_of_getElem? (i := 10) rfl)) (jWr_57 _ (List.mem_of_getElem? (i := 11) rfl)) (jWr_1 _ (List.mem_of_getElem? (i := 5) rfl)) (jWr_57 _ (List.mem_of_getElem? (i := 12) rfl))) rfl rfl rfl (by decide +kernel) ⟨by rw [← hR]; exact Nat.le_of_ble_eq_true rfl, by rw [← hR]; exact Nat.le_of_ble_eq_true rfl⟩) ⟨fun a U g mk q => by obtain ⟨q0, q1, q2, qK, q10, q11, q12, q13, q14, q15, q16, q17⟩ := q; exact ⟨q0, q1, q2, jG.calling g mk a qK, q10, q11, q12, q13, q14, q15, q16, q17⟩, fun U hU hW => ⟨rfl, hU, hh_29.2.1, hG.step hW hU hh_29.1, hg_td, hg_text_20, hg_begin_23, hg_end_26, (hh_29.2.2.1.sub (L1 := [(td, 14, 3, .ref text_20), (td, 14, 4, .int v2_7), (td, 14, 6, .ref begin_23), (td, 14, 7, .ref end_26)]) [2, 3, 1, 0] rfl), (hh_29.2.2.2.2.2.2.2.1.sub (L1 := [(text_20, 101, 1500, ca 1, f_ft_27), (begin_23, 190, 40, ca 1, f_fb_28), (end_26, 191, 40, ca 1, f_fe_29)]) [2, 1, 0] rfl), (hh_29.2.2.2.2.2.2.2.2.sub (L1 := [(jFs, jDY dC dI ca G0 (some td) sn)]) [0] rfl), by first | omega | (refine ⟨?_, ?_⟩ <;> (first | omega | rfl | assumption | decide | exact Or.inl rfl | exact Or.inr rfl | (simp only; omega)))⟩⟩ rfl rfl hl.1 rfl (lv_room (Nat.le_of_ble_eq_true rfl)) dX14_batch_194 ⟨Nat.zero_le _, Nat.zero_le _⟩) hh_29.1 (fun q _ h => h) (fun q h => h) (fun u_16 t_16 H_16 locs_16 ht_16 hvm_16 hr_17 hb_16 hz_16 hk_16 hS_16 => ?_)
                    obtain ⟨qs_16, gb_16, ge_16⟩ := u_16
                    rw [ht_16] at hb_16
                    obtain ⟨hb_16, hbV_16⟩ := hb_16
                    obtain ⟨⟨hb_161, hb_162, hb_163, hb_164, hb_165⟩, hb_166⟩ := hb_16
                    have hh_16 : jSt (dC, dI) B base G0 G0 EX14_batch s.heap 0 0 [(td, 14, 5, .int qs_16), (td, 14, 7, .ref end_26), (td, 14, 6, .ref begin_23), (td, 14, 3, .ref text_20), (td, 14, 4, .int v2_7), (r0, 16, 1, .int 0), (r0, 16, 58, .ref kr), (kr, 15, 17, .ref zf), (kr, 15, 22, .ref zg), (kr, 15, 25, .ref zh), (kr, 15, 27, .ref zp), (r0, 16, 41, .ref dd), (r0, 16, 42, .int dc), (r0, 16, 60, .ref co), (r0, 16, 61, .ref cs), (r0, 16, 46, .ref ol), (r0, 16, 47, .ref nw), (r0, 16, 71, .ref td), (kr, 15, 0, .ref zs), (kr, 15, 1, .ref zn), (kr, 15, 2, .ref za), (kr, 15, 3, .ref zb), (kr, 15, 4, .ref zc), (kr, 15, 14, .ref zy)] [(begin_23, 190, 40, ca 1, gb_16), (end_26, 191, 40, ca 1, ge_16), (text_20, 101, 1500, ca 1, f_ft_27), (zf, 160, 16, ca 1, ff), (zg, 161, 46, ca 1, fg), (zh, 159, 46, ca 1, fh), (zp, 162, 368, ca 1, fp), (cs, 207, 2, ca 1, fs), (zs, 150, 120000, ca 1, C.s), (zn, 151, 120000, ca 1, C.n), (za, 152, 120000, ca 1, C.a), (zb, 153, 120000, ca 1, C.b), (zc, 154, 120000, ca 1, C.c), (zy, 165, 16, ca 1, C.y)] [(jFs, jDY dC dI ca G0 (some td) sn), (jF9, jVl dC dI G0 9 ck), ([(201, 0)], jQc dC dI (ca 4) dd 3 fd), ([(208, 0)], jQc dC dI (ca 4) co 2 fo)] H_16 locs_16 := (((hh_29.call hb_161 hb_162 hb_163 hb_164 hS_16 rfl (L1 := [(td, 14, 7, .ref end_26), (td, 14, 6, .ref begin_23), (td, 14, 3, .ref text_20), (td, 14, 4, .int v2_7), (r0, 16, 1, .int 0), (r0, 16, 58, .ref kr), (kr, 15, 17, .ref zf), (kr, 15, 22, .ref zg), (kr, 15, 25, .ref zh), (kr, 15, 27, .ref zp), (r0, 16, 41, .ref dd), (r0, 16, 42, .int dc), (r0, 16, 60, .ref co), (r0, 16, 61, .ref cs), (r0, 16, 46, .ref ol), (r0, 16, 47, .ref nw), (r0, 16, 71, .ref td), (kr, 15, 0, .ref zs), (kr, 15, 1, .ref zn), (kr, 15, 2, .ref za), (kr, 15, 3, .ref zb), (kr, 15, 4, .ref zc), (kr, 15, 14, .ref zy)]) [0, 1, 2, 3, 4, 5, 6, 7, 8, 9, 10, 11, 12, 13, 14, 15, 16, 17, 18, 19, 20, 21, 22] rfl rfl (M1 := [(text_20, 101, 1500, ca 1, f_ft_27), (zf, 160, 16, ca 1, ff), (zg, 161, 46, ca 1, fg), (zh, 159, 46, ca 1, fh), (zp, 162, 368, ca 1, fp), (cs, 207, 2, ca 1, fs), (zs, 150, 120000, ca 1, C.s), (zn, 151, 120000, ca 1, C.n), (za, 152, 120000, ca 1, C.a), (zb, 153, 120000, ca 1, C.b), (zc, 154, 120000, ca 1, C.c), (zy, 165, 16, ca 1, C.y)]) [2, 3, 4, 5, 6, 7, 8, 9, 10, 11, 12, 13] rfl rfl (I1 := [(jF9, jVl dC dI G0 9 ck), ([(201, 0)], jQc dC dI (ca 4) dd 3 fd), ([(208, 0)], jQc dC dI (ca 4) co 2 fo)]) [1, 2, 3] rfl rfl).more hb_165).moreM hb_166).addIs hbV_16
                    clear hh_29 ht_16 hvm_16 hz_16 hk_16 hS_16 hb_161 hb_162 hb_163 hb_164 hb_165
                    clear hb_166
                    clear hbV_16
                    try simp only at hr_17
                    obtain ⟨hr_17_0, hr_17_1, hr_17_2, hr_17_3⟩ := hr_17
                    have hsB := hr_17_3
                    have hd_30 := jDY.full (hh_16.iv 0 rfl) hg_td hg_begin_23 hg_end_26 (hh_16.2.2.1.sub (L1 := [(td, 14, 6, .ref begin_23), (td, 14, 7, .ref end_26), (td, 14, 5, .int qs_16)]) [2, 1, 0] rfl) (hh_16.2.2.2.2.2.2.2.1.sub (L1 := [(begin_23, 190, 40, ca 1, gb_16), (end_26, 191, 40, ca 1, ge_16)]) [0, 1] rfl) (hr_17_3.up (by omega)) (by omega) (by omega)
                    have hh_31 := hh_16.sub (L1 := [(td, 14, 5, .int qs_16), (td, 14, 7, .ref end_26), (td, 14, 6, .ref begin_23), (td, 14, 3, .ref text_20), (td, 14, 4, .int v2_7), (r0, 16, 1, .int 0), (r0, 16, 58, .ref kr), (kr, 15, 17, .ref zf), (kr, 15, 22, .ref zg), (kr, 15, 25, .ref zh), (kr, 15, 27, .ref zp), (r0, 16, 41, .ref dd), (r0, 16, 42, .int dc), (r0, 16, 60, .ref co), (r0, 16, 61, .ref cs), (r0, 16, 46, .ref ol), (r0, 16, 47, .ref nw), (r0, 16, 71, .ref td), (kr, 15, 0, .ref zs), (kr, 15, 1, .ref zn), (kr, 15, 2, .ref za), (kr, 15, 3, .ref zb), (kr, 15, 4, .ref zc), (kr, 15, 14, .ref zy)]) [0, 1, 2, 3, 4, 5, 6, 7, 8, 9, 10, 11, 12, 13, 14, 15, 16, 17, 18, 19, 20, 21, 22, 23] rfl (M1 := [(begin_23, 190, 40, ca 1, gb_16), (end_26, 191, 40, ca 1, ge_16), (text_20, 101, 1500, ca 1, f_ft_27), (zf, 160, 16, ca 1, ff), (zg, 161, 46, ca 1, fg), (zh, 159, 46, ca 1, fh), (zp, 162, 368, ca 1, fp), (cs, 207, 2, ca 1, fs), (zs, 150, 120000, ca 1, C.s), (zn, 151, 120000, ca 1, C.n), (za, 152, 120000, ca 1, C.a), (zb, 153, 120000, ca 1, C.b), (zc, 154, 120000, ca 1, C.c), (zy, 165, 16, ca 1, C.y)]) [0, 1, 2, 3, 4, 5, 6, 7, 8, 9, 10, 11, 12, 13] rfl (I1 := [(jF9, jVl dC dI G0 9 ck), ([(201, 0)], jQc dC dI (ca 4) dd 3 fd), ([(208, 0)], jQc dC dI (ca 4) co 2 fo)]) [1, 2, 3] rfl
                    clear hh_16
                    have hh_32 := hh_31.addI (jDY.ie hd_30)
                    clear hh_31
                    refine lv_aload_n hx hb dX14_batch_197 rfl (lv_at hl 0 rfl) ?_
                    refine j7_read hx hb hown hK (C := RX14) (T := TX14) (N := 74) rfl hly_16_58 hlk_122 (hh_32.at 6 rfl) dX14_batch_198 ?_
                    refine va_callv (A0 := jA base) (H0 := s.heap) (va_runV (As := []) (rest := []) ⟨hx, hb, hml, hown, hts⟩ (uX13_beginK l dC dI ca base B hB hAp hB15 G0 H_16 kr) (cwV 0 hts (jgV (jWr_59 _ (List.mem_of_getElem? (i := 10) rfl)) (jWr_59 _ (List.mem_of_getElem? (i := 11) rfl)) (jWr_59 _ (List.mem_of_getElem? (i := 12) rfl)) (jWr_12 _ (List.mem_of_getElem? (i := 12) rfl)) (jWr_59 _ (List.mem_of_getElem? (i := 13) rfl))) rfl rfl rfl (by decide +kernel) ⟨by rw [← hR]; exact Nat.le_of_ble_eq_true rfl, by rw [← hR]; exact Nat.le_of_ble_eq_true rfl⟩) ⟨fun a U g mk q => by obtain ⟨q0, q1, q2, qK, q10, q11, q12⟩ := q; exact ⟨q0, q1, q2, jG.calling g mk a qK, q10, q11, q12⟩, hh_32.recv (C := RX13) (T := TX13) (N := 50) hB15 rfl (by decide) hg_kr hK, fun U hU hW => ⟨rfl, hU, hh_32.2.1, hG.step hW hU hh_32.1, hg_kr, jP.nil, trivial⟩⟩ rfl rfl hl.1 rfl (lv_room (Nat.le_of_ble_eq_true rfl)) dX14_batch_201 ⟨Nat.zero_le _, Nat.zero_le _⟩) hh_32.1 (fun q _ h => h) (fun q h => h) (fun u_33 t_33 H_33 locs_33 ht_33 hvm_33 hr_34 hb_33 hz_33 hk_33 hS_33 => ?_)
                    obtain ⟨qn_33, qy_33, qf_33, qg_33, qp_33, qc_33, qs_33⟩ := u_33
                    rw [ht_33] at hb_33
                    obtain ⟨hb_331, hb_332, hb_333, hb_334, hb_335⟩ := hb_33
                    have hh_33 : jSt (dC, dI) B base G0 G0 EX14_batch s.heap 0 0 [(kr, 15, 5, .int qn_33), (kr, 15, 11, .int qy_33), (kr, 15, 15, .int qf_33), (kr, 15, 21, .int qg_33), (kr, 15, 18, .int qp_33), (kr, 15, 10, .int qc_33), (kr, 15, 7, .int qs_33), (td, 14, 5, .int qs_16), (td, 14, 7, .ref end_26), (td, 14, 6, .ref begin_23), (td, 14, 3, .ref text_20), (td, 14, 4, .int v2_7), (r0, 16, 1, .int 0), (r0, 16, 58, .ref kr), (kr, 15, 17, .ref zf), (kr, 15, 22, .ref zg), (kr, 15, 25, .ref zh), (kr, 15, 27, .ref zp), (r0, 16, 41, .ref dd), (r0, 16, 42, .int dc), (r0, 16, 60, .ref co), (r0, 16, 61, .ref cs), (r0, 16, 46, .ref ol), (r0, 16, 47, .ref nw), (r0, 16, 71, .ref td), (kr, 15, 0, .ref zs), (kr, 15, 1, .ref zn), (kr, 15, 2, .ref za), (kr, 15, 3, .ref zb), (kr, 15, 4, .ref zc), (kr, 15, 14, .ref zy)] [(begin_23, 190, 40, ca 1, gb_16), (end_26, 191, 40, ca 1, ge_16), (text_20, 101, 1500, ca 1, f_ft_27), (zf, 160, 16, ca 1, ff), (zg, 161, 46, ca 1, fg), (zh, 159, 46, ca 1, fh), (zp, 162, 368, ca 1, fp), (cs, 207, 2, ca 1, fs), (zs, 150, 120000, ca 1, C.s), (zn, 151, 120000, ca 1, C.n), (za, 152, 120000, ca 1, C.a), (zb, 153, 120000, ca 1, C.b), (zc, 154, 120000, ca 1, C.c), (zy, 165, 16, ca 1, C.y)] [(jFs, jDY dC dI ca G0 none (jUn sn td qs_16)), (jF9, jVl dC dI G0 9 ck), ([(201, 0)], jQc dC dI (ca 4) dd 3 fd), ([(208, 0)], jQc dC dI (ca 4) co 2 fo)] H_33 locs_33 := ((hh_32.call hb_331 hb_332 hb_333 hb_334 hS_33 rfl (L1 := [(td, 14, 5, .int qs_16), (td, 14, 7, .ref end_26), (td, 14, 6, .ref begin_23), (td, 14, 3, .ref text_20), (td, 14, 4, .int v2_7), (r0, 16, 1, .int 0), (r0, 16, 58, .ref kr), (kr, 15, 17, .ref zf), (kr, 15, 22, .ref zg), (kr, 15, 25, .ref zh), (kr, 15, 27, .ref zp), (r0, 16, 41, .ref dd), (r0, 16, 42, .int dc), (r0, 16, 60, .ref co), (r0, 16, 61, .ref cs), (r0, 16, 46, .ref ol), (r0, 16, 47, .ref nw), (r0, 16, 71, .ref td), (kr, 15, 0, .ref zs), (kr, 15, 1, .ref zn), (kr, 15, 2, .ref za), (kr, 15, 3, .ref zb), (kr, 15, 4, .ref zc), (kr, 15, 14, .ref zy)]) [0, 1, 2, 3, 4, 5, 6, 7, 8, 9, 10, 11, 12, 13, 14, 15, 16, 17, 18, 19, 20, 21, 22, 23] rfl rfl (M1 := [(begin_23, 190, 40, ca 1, gb_16), (end_26, 191, 40, ca 1, ge_16), (text_20, 101, 1500, ca 1, f_ft_27), (zf, 160, 16, ca 1, ff), (zg, 161, 46, ca 1, fg), (zh, 159, 46, ca 1, fh), (zp, 162, 368, ca 1, fp), (cs, 207, 2, ca 1, fs), (zs, 150, 120000, ca 1, C.s), (zn, 151, 120000, ca 1, C.n), (za, 152, 120000, ca 1, C.a), (zb, 153, 120000, ca 1, C.b), (zc, 154, 120000, ca 1, C.c), (zy, 165, 16, ca 1, C.y)]) [0, 1, 2, 3, 4, 5, 6, 7, 8, 9, 10, 11, 12, 13] rfl rfl (I1 := [(jFs, jDY dC dI ca G0 none (jUn sn td qs_16)), (jF9, jVl dC dI G0 9 ck), ([(201, 0)], jQc dC dI (ca 4) dd 3 fd), ([(208, 0)], jQc dC dI (ca 4) co 2 fo)]) [0, 1, 2, 3] rfl rfl).more hb_335)
                    clear hh_32 ht_33 hvm_33 hz_33 hk_33 hS_33 hb_331 hb_332 hb_333 hb_334 hb_335
                    try simp only at hr_34
                    obtain ⟨hr_34_0, hr_34_1, hr_34_2, hr_34_3, hr_34_4, hr_34_5, hr_34_6⟩ := hr_34
                    refine lv_iconst (v := 0) hx hb dX14_batch_204 (by decide) ?_
                    refine lv_istore (lv' := [(4, .int 0), (0, .ref r0), (1, .int a1), (2, .int v2_7), (3, .int v3_8)]) hx hb dX14_batch_205 hl (by decide) rfl (fun ls hl => ?_)
                    have L207 : ∀ (N : Nat) (v4_35 : Int32) (wn_35 : Int32) (wy_35 : Int32) (wf_35 : Int32) (wg_35 : Int32) (wp_35 : Int32) (wl_35 : Int32) (wc_35 : Int32) (ws_35 : Int32) (ff_35 : Nat → Int32) (fg_35 : Nat → Int32) (fh_35 : Nat → Int32) (fp_35 : Nat → Int32) (D_35 : jK) (H_35 : Heap) (locs_35 : List Loc), jSt (dC, dI) B base G0 G0 EX14_batch s.heap 0 0 [(kr, 15, 5, .int wn_35), (kr, 15, 11, .int wy_35), (kr, 15, 15, .int wf_35), (kr, 15, 21, .int wg_35), (kr, 15, 18, .int wp_35), (kr, 15, 20, .int wl_35), (kr, 15, 10, .int wc_35), (kr, 15, 7, .int ws_35), (td, 14, 5, .int qs_16), (td, 14, 7, .ref end_26), (td, 14, 6, .ref begin_23), (td, 14, 4, .int v2_7), (r0, 16, 1, .int 0), (r0, 16, 58, .ref kr), (kr, 15, 17, .ref zf), (kr, 15, 22, .ref zg), (kr, 15, 25, .ref zh), (kr, 15, 27, .ref zp), (r0, 16, 41, .ref dd), (r0, 16, 42, .int dc), (r0, 16, 60, .ref co), (r0, 16, 61, .ref cs), (r0, 16, 46, .ref ol), (r0, 16, 47, .ref nw), (r0, 16, 71, .ref td), (kr, 15, 0, .ref zs), (kr, 15, 1, .ref zn), (kr, 15, 2, .ref za), (kr, 15, 3, .ref zb), (kr, 15, 4, .ref zc), (kr, 15, 14, .ref zy)] [(zs, 150, 120000, ca 1, D_35.s), (zn, 151, 120000, ca 1, D_35.n), (za, 152, 120000, ca 1, D_35.a), (zb, 153, 120000, ca 1, D_35.b), (zc, 154, 120000, ca 1, D_35.c), (zy, 165, 16, ca 1, D_35.y), (zp, 162, 368, ca 1, fp_35), (zh, 159, 46, ca 1, fh_35), (zg, 161, 46, ca 1, fg_35), (zf, 160, 16, ca 1, ff_35), (begin_23, 190, 40, ca 1, gb_16), (end_26, 191, 40, ca 1, ge_16), (cs, 207, 2, ca 1, fs)] [(jFs, jDY dC dI ca G0 none (jUn sn td qs_16)), (jF9, jVl dC dI G0 9 ck), ([(201, 0)], jQc dC dI (ca 4) dd 3 fd), ([(208, 0)], jQc dC dI (ca 4) co 2 fo)] H_35 locs_35 → (0 ≤ v4_35.toInt ∧ v4_35.toInt ≤ qs_16.toInt ∧ jKi D_35 wn_35.toInt wy_35.toInt wf_35.toInt wg_35.toInt wp_35.toInt wl_35.toInt ff_35 fg_35 fh_35 fp_35 ∧ 0 ≤ wc_35.toInt ∧ 0 ≤ ws_35.toInt ∧ wc_35.toInt ≤ 1500 ∧ ws_35.toInt ≤ 1500 ∧ 0 ≤ wn_35.toInt ∧ wn_35.toInt ≤ 12000 + 500 * v4_35.toInt ∧ (v4_35.toInt < qs_16.toInt → wn_35.toInt ≤ 8 * jSo gb_16 v4_35.toInt + 500 * v4_35.toInt ∧ wc_35.toInt ≤ jSo gb_16 v4_35.toInt ∧ ws_35.toInt ≤ jSo gb_16 v4_35.toInt)) → (qs_16.toInt - v4_35.toInt : Int) < N → ∀ ls : Array Slot, lv_has ls 6 [(0, .ref r0), (1, .int a1), (2, .int v2_7), (3, .int v3_8), (4, .int v4_35)] → W p l e R s m ([.ref r0, .int a1] : List Value).toArray below meth c H_35 locs_35 0 0 Q (F0 m 207 ls []) := by
                      intro N
                      induction N with
                      | zero => intro v4_35 wn_35 wy_35 wf_35 wg_35 wp_35 wl_35 wc_35 ws_35 ff_35 fg_35 fh_35 fp_35 D_35 H_35 locs_35 hh_35  hi_35 hm; exact absurd hm (by omega)
                      | succ N L207 =>
                        intro v4_35 wn_35 wy_35 wf_35 wg_35 wp_35 wl_35 wc_35 ws_35 ff_35 fg_35 fh_35 fp_35 D_35 H_35 locs_35 hh_35  hi_35 hm_35 ls hl
                        obtain ⟨hi_35_0, hi_35_1, hi_35_2, hi_35_3, hi_35_4, hi_35_5, hi_35_6, hi_35_7, hi_35_8, hi_35_9⟩ := hi_35
                        refine lv_iload hx hb dX14_batch_207 (lv_at hl 4 rfl) ?_
                        refine lv_aload_n hx hb dX14_batch_209 rfl (lv_at hl 0 rfl) ?_
                        refine j7_read hx hb hown hK (C := RX14) (T := TX14) (N := 74) rfl hly_16_71 hlk_151 (hh_35.at 24 rfl) dX14_batch_210 ?_
                        refine j7_readN hx hb hown hK (C := RX12) (T := TX12) (N := 11) rfl hly_14_5 hlk_587 (hh_35.at 8 rfl) dX14_batch_213 ?_
                        refine lv_icmp_ge (tgt := 321) hx hb dX14_batch_216 (by decide) (fun c_36 => ?_) (fun c_36 => ?_)
                        · skip
                          have c_36' : v4_35.toInt ≥ qs_16.toInt := jb_ge (rfl) (rfl) c_36
                          refine lv_aload_n hx hb dX14_batch_321 rfl (lv_at hl 0 rfl) ?_
                          refine j7_read hx hb hown hK (C := RX14) (T := TX14) (N := 74) rfl hly_16_71 hlk_151 (hh_35.at 24 rfl) dX14_batch_322 ?_
                          refine j7_readN hx hb hown hK (C := RX12) (T := TX12) (N := 11) rfl hly_14_5 hlk_587 (hh_35.at 8 rfl) dX14_batch_325 ?_
                          rw [hQ]
                          exact W.iret (v := qs_16) hx hb hr (fun t ht hW => ⟨⟨qs_16, (ff_35, fg_35, fh_35, fp_35, D_35), rfl, trivial, ⟨⟨hh_35.rt (M1 := []) [] rfl ht, by rw [ht]; exact hh_35.2.2.2.2.2.2.2.1.sub [9, 8, 7, 6, 0, 1, 2, 3, 4, 5] rfl⟩, by rw [ht]; exact ⟨(jUn sn td qs_16), ck, fs, fd, fo, dc, hh_35.2.2.1.sub (L1 := [(r0, 16, 41, .ref dd), (r0, 16, 42, .int dc), (r0, 16, 60, .ref co), (r0, 16, 61, .ref cs), (r0, 16, 46, .ref ol), (r0, 16, 47, .ref nw), (r0, 16, 71, .ref td)]) [18, 19, 20, 21, 22, 23, 24] rfl, hh_35.2.2.2.2.2.2.2.1.sub (L1 := [(cs, 207, 2, ca 1, fs)]) [12] rfl, hh_35.2.2.2.2.2.2.2.2.sub (L1 := [(jFs, jDY dC dI ca G0 none (jUn sn td qs_16)), (jF9, jVl dC dI G0 9 ck), ([(201, 0)], jQc dC dI (ca 4) dd 3 fd), ([(208, 0)], jQc dC dI (ca 4) co 2 fo)]) [0, 1, 2, 3] rfl, hp0.num (Or.inr (Or.inr rfl))⟩⟩⟩, by rw [ht]; try exact hh_35.1.1, fun q h9 hq => by rw [ht]; try exact hh_35.1.2.1 q h9 hq⟩) hh_35.1.2.2 dX14_batch_328
                        · skip
                          have c_36' : v4_35.toInt < qs_16.toInt := jb_ge_n (rfl) (rfl) c_36
                          obtain ⟨s1, s2, s3, s4⟩ := hsB v4_35.toInt (by omega) (by omega)
                          obtain ⟨t1, t2, t3⟩ := hi_35_9 (by omega)
                          refine lv_aload_n hx hb dX14_batch_219 rfl (lv_at hl 0 rfl) ?_
                          refine j7_read hx hb hown hK (C := RX14) (T := TX14) (N := 74) rfl hly_16_71 hlk_151 (hh_35.at 24 rfl) dX14_batch_220 ?_
                          obtain ⟨v_37, hv_37, hh_38⟩ := hh_35.pin (C := RX12) (T := TX12) (N := 11) hB14 rfl (by decide) hg_td (i := 10) (by decide) rfl
                          clear hh_35
                          obtain ⟨fault_39, rfl, hg_fault_39⟩ := hv_37
                          refine j7_readN hx hb hown hK (C := RX12) (T := TX12) (N := 11) rfl hly_14_10 hlk_751 (hh_38.at 0 rfl) dX14_batch_223 ?_
                          refine lv_iload hx hb dX14_batch_226 (lv_at hl 4 rfl) ?_
                          refine lv_aload_n hx hb dX14_batch_228 rfl (lv_at hl 0 rfl) ?_
                          refine j7_read hx hb hown hK (C := RX14) (T := TX14) (N := 74) rfl hly_16_58 hlk_122 (hh_38.at 14 rfl) dX14_batch_229 ?_
                          refine lv_aload_n hx hb dX14_batch_232 rfl (lv_at hl 0 rfl) ?_
                          refine j7_read hx hb hown hK (C := RX14) (T := TX14) (N := 74) rfl hly_16_71 hlk_151 (hh_38.at 25 rfl) dX14_batch_233 ?_
                          obtain ⟨v_40, hv_40, hh_41⟩ := hh_38.pin (C := RX12) (T := TX12) (N := 11) hB14 rfl (by decide) hg_td (i := 3) (by decide) rfl
                          clear hh_38
                          obtain ⟨text_42, rfl, hg_text_42⟩ := hv_40
                          refine j7_readN hx hb hown hK (C := RX12) (T := TX12) (N := 11) rfl hly_14_3 hlk_529 (hh_41.at 0 rfl) dX14_batch_236 ?_
                          refine lv_aload_n hx hb dX14_batch_239 rfl (lv_at hl 0 rfl) ?_
                          refine j7_read hx hb hown hK (C := RX14) (T := TX14) (N := 74) rfl hly_16_71 hlk_151 (hh_41.at 26 rfl) dX14_batch_240 ?_
                          refine j7_readN hx hb hown hK (C := RX12) (T := TX12) (N := 11) rfl hly_14_6 hlk_596 (hh_41.at 12 rfl) dX14_batch_243 ?_
                          refine lv_iload hx hb dX14_batch_246 (lv_at hl 4 rfl) ?_
                          refine j7_ialdM hx hb hK hh_41 hB190 1 rfl (by decide) hg_begin_23 (x := v4_35.toInt) (rfl) (by omega) (j := 10) rfl dX14_batch_248 (fun z_43 ez_43 (hz_43 : 0 ≤ z_43.toInt ∧ z_43.toInt ≤ 1500) => ?_)
                          have hqz_43 : z_43.toInt = jSo gb_16 (v4_35.toInt) := by unfold jSo; rw [ez_43]
                          refine lv_aload_n hx hb dX14_batch_249 rfl (lv_at hl 0 rfl) ?_
                          refine j7_read hx hb hown hK (C := RX14) (T := TX14) (N := 74) rfl hly_16_71 hlk_151 (hh_41.at 26 rfl) dX14_batch_250 ?_
                          refine j7_readN hx hb hown hK (C := RX12) (T := TX12) (N := 11) rfl hly_14_7 hlk_594 (hh_41.at 11 rfl) dX14_batch_253 ?_
                          refine lv_iload hx hb dX14_batch_256 (lv_at hl 4 rfl) ?_
                          refine j7_ialdM hx hb hK hh_41 hB191 1 rfl (by decide) hg_end_26 (x := v4_35.toInt) (rfl) (by omega) (j := 11) rfl dX14_batch_258 (fun z_44 ez_44 (hz_44 : 0 ≤ z_44.toInt ∧ z_44.toInt ≤ 1500) => ?_)
                          have hqz_44 : z_44.toInt = jSo ge_16 (v4_35.toInt) := by unfold jSo; rw [ez_44]
                          refine lv_aload_n hx hb dX14_batch_259 rfl (lv_at hl 0 rfl) ?_
                          refine j7_read hx hb hown hK (C := RX14) (T := TX14) (N := 74) rfl hly_16_71 hlk_151 (hh_41.at 26 rfl) dX14_batch_260 ?_
                          obtain ⟨v_45, hv_45, hh_46⟩ := hh_41.pin (C := RX12) (T := TX12) (N := 11) hB14 rfl (by decide) hg_td (i := 8) (by decide) rfl
                          clear hh_41
                          obtain ⟨flaw_47, rfl, hg_flaw_47⟩ := hv_45
                          refine j7_readN hx hb hown hK (C := RX12) (T := TX12) (N := 11) rfl hly_14_8 hlk_599 (hh_46.at 0 rfl) dX14_batch_263 ?_
                          refine lv_iload hx hb dX14_batch_266 (lv_at hl 4 rfl) ?_
                          refine j7_iald hx hb hK hh_46 hB192 1 rfl (by decide) hg_flaw_47 (x := v4_35.toInt) (rfl) (by omega) dX14_batch_268 (fun z_48 (hz_48 : 0 ≤ z_48.toInt ∧ z_48.toInt ≤ 2) => ?_)
                          have hh_49 := hh_46.sub (L1 := [(td, 14, 3, .ref text_42), (td, 14, 10, .ref fault_39), (kr, 15, 5, .int wn_35), (kr, 15, 11, .int wy_35), (kr, 15, 15, .int wf_35), (kr, 15, 21, .int wg_35), (kr, 15, 18, .int wp_35), (kr, 15, 20, .int wl_35), (kr, 15, 10, .int wc_35), (kr, 15, 7, .int ws_35), (td, 14, 5, .int qs_16), (td, 14, 7, .ref end_26), (td, 14, 6, .ref begin_23), (td, 14, 4, .int v2_7), (r0, 16, 1, .int 0), (r0, 16, 58, .ref kr), (kr, 15, 17, .ref zf), (kr, 15, 22, .ref zg), (kr, 15, 25, .ref zh), (kr, 15, 27, .ref zp), (r0, 16, 41, .ref dd), (r0, 16, 42, .int dc), (r0, 16, 60, .ref co), (r0, 16, 61, .ref cs), (r0, 16, 46, .ref ol), (r0, 16, 47, .ref nw), (r0, 16, 71, .ref td), (kr, 15, 0, .ref zs), (kr, 15, 1, .ref zn), (kr, 15, 2, .ref za), (kr, 15, 3, .ref zb), (kr, 15, 4, .ref zc), (kr, 15, 14, .ref zy)]) [1, 2, 3, 4, 5, 6, 7, 8, 9, 10, 11, 12, 13, 14, 15, 16, 17, 18, 19, 20, 21, 22, 23, 24, 25, 26, 27, 28, 29, 30, 31, 32, 33] rfl (M1 := [(zs, 150, 120000, ca 1, D_35.s), (zn, 151, 120000, ca 1, D_35.n), (za, 152, 120000, ca 1, D_35.a), (zb, 153, 120000, ca 1, D_35.b), (zc, 154, 120000, ca 1, D_35.c), (zy, 165, 16, ca 1, D_35.y), (zp, 162, 368, ca 1, fp_35), (zh, 159, 46, ca 1, fh_35), (zg, 161, 46, ca 1, fg_35), (zf, 160, 16, ca 1, ff_35), (begin_23, 190, 40, ca 1, gb_16), (end_26, 191, 40, ca 1, ge_16), (cs, 207, 2, ca 1, fs)]) [0, 1, 2, 3, 4, 5, 6, 7, 8, 9, 10, 11, 12] rfl (I1 := [(jFs, jDY dC dI ca G0 none (jUn sn td qs_16)), (jF9, jVl dC dI G0 9 ck), ([(201, 0)], jQc dC dI (ca 4) dd 3 fd), ([(208, 0)], jQc dC dI (ca 4) co 2 fo)]) [0, 1, 2, 3] rfl
                          clear hh_46
                          refine va_calli (A0 := jA base) (H0 := s.heap) (va_runV (As := [.ref text_42, .int z_43, .int z_44, .int z_48]) (rest := [.int v4_35, .ref fault_39]) ⟨hx, hb, hml, hown, hts⟩ (uX13_sentence l dC dI ca base B hB hAp hB15 hB101 hB103 hB150 hB151 hB152 hB153 hB154 hB155 hB156 hB157 hB158 hB159 hB160 hB161 hB162 hB163 hB165 hB166 hB167 hB168 hB169 G0 H_35 kr text_42 z_43 z_44 z_48 1500 wn_35 wy_35 wf_35 wg_35 wp_35 wl_35 wc_35 ws_35 zf zg zh zp zs zn za zb zc zy ff_35 fg_35 fh_35 fp_35 D_35) (cwV 4 hts (jgV (jWr_59 _ (List.mem_of_getElem? (i := 21) rfl)) (jWr_59 _ (List.mem_of_getElem? (i := 22) rfl)) (jWr_59 _ (List.mem_of_getElem? (i := 23) rfl)) (jWr_12 _ (List.mem_of_getElem? (i := 12) rfl)) (jWr_60 _ (List.mem_of_getElem? (i := 0) rfl))) rfl rfl rfl (by decide +kernel) ⟨by rw [← hR]; exact Nat.le_of_ble_eq_true rfl, by rw [← hR]; exact Nat.le_of_ble_eq_true rfl⟩) ⟨fun a U g mk q => by obtain ⟨q0, q1, q2, qK, q10, q11, q12, q13, q14, q15, q16, q17, q18, q19, q20, q21, q22, q23, q24⟩ := q; exact ⟨q0, q1, q2, jG.calling g mk a qK, q10, q11, q12, q13, q14, q15, q16, q17, q18, q19, q20, q21, q22, q23, q24⟩, hh_49.recv (C := RX13) (T := TX13) (N := 50) hB15 rfl (by decide) hg_kr hK, fun U hU hW => ⟨rfl, hU, hh_49.2.1, hG.step hW hU hh_49.1, hg_text_42, hg_kr, hg_zf, hg_zg, hg_zh, hg_zp, hg_zs, hg_zn, hg_za, hg_zb, hg_zc, hg_zy, (hh_49.2.2.1.sub (L1 := [(kr, 15, 5, .int wn_35), (kr, 15, 11, .int wy_35), (kr, 15, 15, .int wf_35), (kr, 15, 21, .int wg_35), (kr, 15, 18, .int wp_35), (kr, 15, 20, .int wl_35), (kr, 15, 10, .int wc_35), (kr, 15, 7, .int ws_35), (kr, 15, 17, .ref zf), (kr, 15, 22, .ref zg), (kr, 15, 25, .ref zh), (kr, 15, 27, .ref zp), (kr, 15, 0, .ref zs), (kr, 15, 1, .ref zn), (kr, 15, 2, .ref za), (kr, 15, 3, .ref zb), (kr, 15, 4, .ref zc), (kr, 15, 14, .ref zy)]) [2, 3, 4, 5, 6, 7, 8, 9, 16, 17, 18, 19, 27, 28, 29, 30, 31, 32] rfl), (hh_49.2.2.2.2.2.2.2.1.sub (L1 := [(zf, 160, 16, ca 1, ff_35), (zg, 161, 46, ca 1, fg_35), (zh, 159, 46, ca 1, fh_35), (zp, 162, 368, ca 1, fp_35), (zs, 150, 120000, ca 1, D_35.s), (zn, 151, 120000, ca 1, D_35.n), (za, 152, 120000, ca 1, D_35.a), (zb, 153, 120000, ca 1, D_35.b), (zc, 154, 120000, ca 1, D_35.c), (zy, 165, 16, ca 1, D_35.y)]) [9, 8, 7, 6, 0, 1, 2, 3, 4, 5] rfl), ⟨(by first | assumption | exact hi_35_2 | omega), (by first | omega | rfl | assumption | exact hi_35_2), (by first | omega | rfl | assumption | exact hi_35_2), (by first | omega | rfl | assumption | exact hi_35_2), (by first | omega | rfl | assumption | exact hi_35_2), (by first | omega | rfl | assumption | exact hi_35_2), (by first | omega | rfl | assumption | exact hi_35_2), (by first | omega | rfl | assumption | exact hi_35_2), (by first | omega | rfl | assumption | exact hi_35_2), (by first | omega | rfl | assumption | exact hi_35_2)⟩⟩⟩ rfl rfl hl.1 rfl (lv_room (Nat.le_of_ble_eq_true rfl)) dX14_batch_269 ⟨Nat.zero_le _, Nat.zero_le _⟩) hh_49.1 (fun q _ h => h) (fun q h => h) (fun r_51 u_50 t_50 H_50 locs_50 ht_50 hvm_50 hr_51 hb_50 hz_50 hk_50 hS_50 => ?_)
                          obtain ⟨qn_50, qy_50, qf_50, qg_50, qp_50, ql_50, qc_50, qs_50, gf_50, gg_50, gh_50, gp_50, D_50⟩ := u_50
                          rw [ht_50] at hb_50
                          obtain ⟨⟨hb_501, hb_502, hb_503, hb_504, hb_505⟩, hb_506⟩ := hb_50
                          have hh_50 : jSt (dC, dI) B base G0 G0 EX14_batch s.heap 0 0 [(kr, 15, 5, .int qn_50), (kr, 15, 11, .int qy_50), (kr, 15, 15, .int qf_50), (kr, 15, 21, .int qg_50), (kr, 15, 18, .int qp_50), (kr, 15, 20, .int ql_50), (kr, 15, 10, .int qc_50), (kr, 15, 7, .int qs_50), (td, 14, 3, .ref text_42), (td, 14, 10, .ref fault_39), (td, 14, 5, .int qs_16), (td, 14, 7, .ref end_26), (td, 14, 6, .ref begin_23), (td, 14, 4, .int v2_7), (r0, 16, 1, .int 0), (r0, 16, 58, .ref kr), (kr, 15, 17, .ref zf), (kr, 15, 22, .ref zg), (kr, 15, 25, .ref zh), (kr, 15, 27, .ref zp), (r0, 16, 41, .ref dd), (r0, 16, 42, .int dc), (r0, 16, 60, .ref co), (r0, 16, 61, .ref cs), (r0, 16, 46, .ref ol), (r0, 16, 47, .ref nw), (r0, 16, 71, .ref td), (kr, 15, 0, .ref zs), (kr, 15, 1, .ref zn), (kr, 15, 2, .ref za), (kr, 15, 3, .ref zb), (kr, 15, 4, .ref zc), (kr, 15, 14, .ref zy)] [(zf, 160, 16, ca 1, gf_50), (zg, 161, 46, ca 1, gg_50), (zh, 159, 46, ca 1, gh_50), (zp, 162, 368, ca 1, gp_50), (zs, 150, 120000, ca 1, D_50.s), (zn, 151, 120000, ca 1, D_50.n), (za, 152, 120000, ca 1, D_50.a), (zb, 153, 120000, ca 1, D_50.b), (zc, 154, 120000, ca 1, D_50.c), (zy, 165, 16, ca 1, D_50.y), (begin_23, 190, 40, ca 1, gb_16), (end_26, 191, 40, ca 1, ge_16), (cs, 207, 2, ca 1, fs)] [(jFs, jDY dC dI ca G0 none (jUn sn td qs_16)), (jF9, jVl dC dI G0 9 ck), ([(201, 0)], jQc dC dI (ca 4) dd 3 fd), ([(208, 0)], jQc dC dI (ca 4) co 2 fo)] H_50 locs_50 := ((hh_49.call hb_501 hb_502 hb_503 hb_504 hS_50 rfl (L1 := [(td, 14, 3, .ref text_42), (td, 14, 10, .ref fault_39), (td, 14, 5, .int qs_16), (td, 14, 7, .ref end_26), (td, 14, 6, .ref begin_23), (td, 14, 4, .int v2_7), (r0, 16, 1, .int 0), (r0, 16, 58, .ref kr), (kr, 15, 17, .ref zf), (kr, 15, 22, .ref zg), (kr, 15, 25, .ref zh), (kr, 15, 27, .ref zp), (r0, 16, 41, .ref dd), (r0, 16, 42, .int dc), (r0, 16, 60, .ref co), (r0, 16, 61, .ref cs), (r0, 16, 46, .ref ol), (r0, 16, 47, .ref nw), (r0, 16, 71, .ref td), (kr, 15, 0, .ref zs), (kr, 15, 1, .ref zn), (kr, 15, 2, .ref za), (kr, 15, 3, .ref zb), (kr, 15, 4, .ref zc), (kr, 15, 14, .ref zy)]) [0, 1, 10, 11, 12, 13, 14, 15, 16, 17, 18, 19, 20, 21, 22, 23, 24, 25, 26, 27, 28, 29, 30, 31, 32] rfl rfl (M1 := [(begin_23, 190, 40, ca 1, gb_16), (end_26, 191, 40, ca 1, ge_16), (cs, 207, 2, ca 1, fs)]) [10, 11, 12] rfl rfl (I1 := [(jFs, jDY dC dI ca G0 none (jUn sn td qs_16)), (jF9, jVl dC dI G0 9 ck), ([(201, 0)], jQc dC dI (ca 4) dd 3 fd), ([(208, 0)], jQc dC dI (ca 4) co 2 fo)]) [0, 1, 2, 3] rfl rfl).more hb_505).moreM hb_506
                          clear hh_49 ht_50 hvm_50 hz_50 hk_50 hS_50 hb_501 hb_502 hb_503 hb_504 hb_505
                          clear hb_506
                          try simp only at hr_51
                          obtain ⟨hr_51_0, hr_51_1, hr_51_2, hr_51_3, hr_51_4, hr_51_5, hr_51_6⟩ := hr_51
                          have hh_52 := hh_50.sub (L1 := [(kr, 15, 5, .int qn_50), (kr, 15, 11, .int qy_50), (kr, 15, 15, .int qf_50), (kr, 15, 21, .int qg_50), (kr, 15, 18, .int qp_50), (kr, 15, 20, .int ql_50), (kr, 15, 10, .int qc_50), (kr, 15, 7, .int qs_50), (td, 14, 10, .ref fault_39), (td, 14, 5, .int qs_16), (td, 14, 7, .ref end_26), (td, 14, 6, .ref begin_23), (td, 14, 4, .int v2_7), (r0, 16, 1, .int 0), (r0, 16, 58, .ref kr), (kr, 15, 17, .ref zf), (kr, 15, 22, .ref zg), (kr, 15, 25, .ref zh), (kr, 15, 27, .ref zp), (r0, 16, 41, .ref dd), (r0, 16, 42, .int dc), (r0, 16, 60, .ref co), (r0, 16, 61, .ref cs), (r0, 16, 46, .ref ol), (r0, 16, 47, .ref nw), (r0, 16, 71, .ref td), (kr, 15, 0, .ref zs), (kr, 15, 1, .ref zn), (kr, 15, 2, .ref za), (kr, 15, 3, .ref zb), (kr, 15, 4, .ref zc), (kr, 15, 14, .ref zy)]) [0, 1, 2, 3, 4, 5, 6, 7, 9, 10, 11, 12, 13, 14, 15, 16, 17, 18, 19, 20, 21, 22, 23, 24, 25, 26, 27, 28, 29, 30, 31, 32] rfl (M1 := [(zf, 160, 16, ca 1, gf_50), (zg, 161, 46, ca 1, gg_50), (zh, 159, 46, ca 1, gh_50), (zp, 162, 368, ca 1, gp_50), (zs, 150, 120000, ca 1, D_50.s), (zn, 151, 120000, ca 1, D_50.n), (za, 152, 120000, ca 1, D_50.a), (zb, 153, 120000, ca 1, D_50.b), (zc, 154, 120000, ca 1, D_50.c), (zy, 165, 16, ca 1, D_50.y), (begin_23, 190, 40, ca 1, gb_16), (end_26, 191, 40, ca 1, ge_16), (cs, 207, 2, ca 1, fs)]) [0, 1, 2, 3, 4, 5, 6, 7, 8, 9, 10, 11, 12] rfl (I1 := [(jFs, jDY dC dI ca G0 none (jUn sn td qs_16)), (jF9, jVl dC dI G0 9 ck), ([(201, 0)], jQc dC dI (ca 4) dd 3 fd), ([(208, 0)], jQc dC dI (ca 4) co 2 fo)]) [0, 1, 2, 3] rfl
                          clear hh_50
                          refine j7_iast hx hb hK hh_52 hB hB193 1 rfl (by decide) (by decide) rfl rfl rfl hg_fault_39 (x := v4_35.toInt) (rfl) (by omega) (trivial) dX14_batch_272 (fun H_53 locs_53 hh_53 => ?_)
                          clear hh_52
                          have hh_54 := hh_53.sub (L1 := [(kr, 15, 5, .int qn_50), (kr, 15, 11, .int qy_50), (kr, 15, 15, .int qf_50), (kr, 15, 21, .int qg_50), (kr, 15, 18, .int qp_50), (kr, 15, 20, .int ql_50), (kr, 15, 10, .int qc_50), (kr, 15, 7, .int qs_50), (td, 14, 5, .int qs_16), (td, 14, 7, .ref end_26), (td, 14, 6, .ref begin_23), (td, 14, 4, .int v2_7), (r0, 16, 1, .int 0), (r0, 16, 58, .ref kr), (kr, 15, 17, .ref zf), (kr, 15, 22, .ref zg), (kr, 15, 25, .ref zh), (kr, 15, 27, .ref zp), (r0, 16, 41, .ref dd), (r0, 16, 42, .int dc), (r0, 16, 60, .ref co), (r0, 16, 61, .ref cs), (r0, 16, 46, .ref ol), (r0, 16, 47, .ref nw), (r0, 16, 71, .ref td), (kr, 15, 0, .ref zs), (kr, 15, 1, .ref zn), (kr, 15, 2, .ref za), (kr, 15, 3, .ref zb), (kr, 15, 4, .ref zc), (kr, 15, 14, .ref zy)]) [0, 1, 2, 3, 4, 5, 6, 7, 9, 10, 11, 12, 13, 14, 15, 16, 17, 18, 19, 20, 21, 22, 23, 24, 25, 26, 27, 28, 29, 30, 31] rfl (M1 := [(zf, 160, 16, ca 1, gf_50), (zg, 161, 46, ca 1, gg_50), (zh, 159, 46, ca 1, gh_50), (zp, 162, 368, ca 1, gp_50), (zs, 150, 120000, ca 1, D_50.s), (zn, 151, 120000, ca 1, D_50.n), (za, 152, 120000, ca 1, D_50.a), (zb, 153, 120000, ca 1, D_50.b), (zc, 154, 120000, ca 1, D_50.c), (zy, 165, 16, ca 1, D_50.y), (begin_23, 190, 40, ca 1, gb_16), (end_26, 191, 40, ca 1, ge_16), (cs, 207, 2, ca 1, fs)]) [0, 1, 2, 3, 4, 5, 6, 7, 8, 9, 10, 11, 12] rfl (I1 := [(jFs, jDY dC dI ca G0 none (jUn sn td qs_16)), (jF9, jVl dC dI G0 9 ck), ([(201, 0)], jQc dC dI (ca 4) dd 3 fd), ([(208, 0)], jQc dC dI (ca 4) co 2 fo)]) [0, 1, 2, 3] rfl
                          clear hh_53
                          refine lv_aload_n hx hb dX14_batch_273 rfl (lv_at hl 0 rfl) ?_
                          obtain ⟨v_55, hv_55, hh_56⟩ := hh_54.pin (C := RX14) (T := TX14) (N := 74) hB16 rfl (by decide) hg_r0 (i := 72) (by decide) rfl
                          clear hh_54
                          obtain ⟨toldGoals_57, rfl, hg_toldGoals_57⟩ := hv_55
                          refine j7_read hx hb hown hK (C := RX14) (T := TX14) (N := 74) rfl hly_16_72 hlk_154 (hh_56.at 0 rfl) dX14_batch_274 ?_
                          refine lv_iload hx hb dX14_batch_277 (lv_at hl 4 rfl) ?_
                          refine lv_aload_n hx hb dX14_batch_279 rfl (lv_at hl 0 rfl) ?_
                          refine j7_read hx hb hown hK (C := RX14) (T := TX14) (N := 74) rfl hly_16_58 hlk_122 (hh_56.at 14 rfl) dX14_batch_280 ?_
                          refine j7_readN hx hb hown hK (C := RX13) (T := TX13) (N := 50) rfl hly_15_18 hlk_637 (hh_56.at 5 rfl) dX14_batch_283 ?_
                          refine lv_if_eq (tgt := 299) hx hb dX14_batch_286 (by decide) (fun c_58 => ?_) (fun c_58 => ?_)
                          · skip
                            have c_58' : qp_50.toInt = 0 := jb_eq (rfl) ((by decide)) c_58
                            refine lv_iconst (v := (-1)) hx hb dX14_batch_299 (by decide) ?_
                            refine j7_iast hx hb hK hh_56 hB hB101 1 rfl (by decide) (by decide) rfl rfl rfl hg_toldGoals_57 (x := v4_35.toInt) (rfl) (by omega) (trivial) dX14_batch_300 (fun H_59 locs_59 hh_59 => ?_)
                            clear hh_56
                            have hh_60 := hh_59.sub (L1 := [(kr, 15, 5, .int qn_50), (kr, 15, 11, .int qy_50), (kr, 15, 15, .int qf_50), (kr, 15, 21, .int qg_50), (kr, 15, 18, .int qp_50), (kr, 15, 20, .int ql_50), (kr, 15, 10, .int qc_50), (kr, 15, 7, .int qs_50), (td, 14, 5, .int qs_16), (td, 14, 7, .ref end_26), (td, 14, 6, .ref begin_23), (td, 14, 4, .int v2_7), (r0, 16, 1, .int 0), (r0, 16, 58, .ref kr), (kr, 15, 17, .ref zf), (kr, 15, 22, .ref zg), (kr, 15, 25, .ref zh), (kr, 15, 27, .ref zp), (r0, 16, 41, .ref dd), (r0, 16, 42, .int dc), (r0, 16, 60, .ref co), (r0, 16, 61, .ref cs), (r0, 16, 46, .ref ol), (r0, 16, 47, .ref nw), (r0, 16, 71, .ref td), (kr, 15, 0, .ref zs), (kr, 15, 1, .ref zn), (kr, 15, 2, .ref za), (kr, 15, 3, .ref zb), (kr, 15, 4, .ref zc), (kr, 15, 14, .ref zy)]) [1, 2, 3, 4, 5, 6, 7, 8, 9, 10, 11, 12, 13, 14, 15, 16, 17, 18, 19, 20, 21, 22, 23, 24, 25, 26, 27, 28, 29, 30, 31] rfl (M1 := [(zf, 160, 16, ca 1, gf_50), (zg, 161, 46, ca 1, gg_50), (zh, 159, 46, ca 1, gh_50), (zp, 162, 368, ca 1, gp_50), (zs, 150, 120000, ca 1, D_50.s), (zn, 151, 120000, ca 1, D_50.n), (za, 152, 120000, ca 1, D_50.a), (zb, 153, 120000, ca 1, D_50.b), (zc, 154, 120000, ca 1, D_50.c), (zy, 165, 16, ca 1, D_50.y), (begin_23, 190, 40, ca 1, gb_16), (end_26, 191, 40, ca 1, ge_16), (cs, 207, 2, ca 1, fs)]) [0, 1, 2, 3, 4, 5, 6, 7, 8, 9, 10, 11, 12] rfl (I1 := [(jFs, jDY dC dI ca G0 none (jUn sn td qs_16)), (jF9, jVl dC dI G0 9 ck), ([(201, 0)], jQc dC dI (ca 4) dd 3 fd), ([(208, 0)], jQc dC dI (ca 4) co 2 fo)]) [0, 1, 2, 3] rfl
                            clear hh_59
                            refine lv_aload_n hx hb dX14_batch_301 rfl (lv_at hl 0 rfl) ?_
                            obtain ⟨v_61, hv_61, hh_62⟩ := hh_60.pin (C := RX14) (T := TX14) (N := 74) hB16 rfl (by decide) hg_r0 (i := 73) (by decide) rfl
                            clear hh_60
                            obtain ⟨toldFacts_63, rfl, hg_toldFacts_63⟩ := hv_61
                            refine j7_read hx hb hown hK (C := RX14) (T := TX14) (N := 74) rfl hly_16_73 hlk_157 (hh_62.at 0 rfl) dX14_batch_302 ?_
                            refine lv_iload hx hb dX14_batch_305 (lv_at hl 4 rfl) ?_
                            refine lv_aload_n hx hb dX14_batch_307 rfl (lv_at hl 0 rfl) ?_
                            refine j7_read hx hb hown hK (C := RX14) (T := TX14) (N := 74) rfl hly_16_58 hlk_122 (hh_62.at 14 rfl) dX14_batch_308 ?_
                            refine j7_readN hx hb hown hK (C := RX13) (T := TX13) (N := 50) rfl hly_15_15 hlk_661 (hh_62.at 3 rfl) dX14_batch_311 ?_
                            refine j7_iast hx hb hK hh_62 hB hB101 1 rfl (by decide) (by decide) rfl rfl rfl hg_toldFacts_63 (x := v4_35.toInt) (rfl) (by omega) (trivial) dX14_batch_314 (fun H_64 locs_64 hh_64 => ?_)
                            clear hh_62
                            have hh_65 := hh_64.sub (L1 := [(kr, 15, 5, .int qn_50), (kr, 15, 11, .int qy_50), (kr, 15, 15, .int qf_50), (kr, 15, 21, .int qg_50), (kr, 15, 18, .int qp_50), (kr, 15, 20, .int ql_50), (kr, 15, 10, .int qc_50), (kr, 15, 7, .int qs_50), (td, 14, 5, .int qs_16), (td, 14, 7, .ref end_26), (td, 14, 6, .ref begin_23), (td, 14, 4, .int v2_7), (r0, 16, 1, .int 0), (r0, 16, 58, .ref kr), (kr, 15, 17, .ref zf), (kr, 15, 22, .ref zg), (kr, 15, 25, .ref zh), (kr, 15, 27, .ref zp), (r0, 16, 41, .ref dd), (r0, 16, 42, .int dc), (r0, 16, 60, .ref co), (r0, 16, 61, .ref cs), (r0, 16, 46, .ref ol), (r0, 16, 47, .ref nw), (r0, 16, 71, .ref td), (kr, 15, 0, .ref zs), (kr, 15, 1, .ref zn), (kr, 15, 2, .ref za), (kr, 15, 3, .ref zb), (kr, 15, 4, .ref zc), (kr, 15, 14, .ref zy)]) [1, 2, 3, 4, 5, 6, 7, 8, 9, 10, 11, 12, 13, 14, 15, 16, 17, 18, 19, 20, 21, 22, 23, 24, 25, 26, 27, 28, 29, 30, 31] rfl (M1 := [(zf, 160, 16, ca 1, gf_50), (zg, 161, 46, ca 1, gg_50), (zh, 159, 46, ca 1, gh_50), (zp, 162, 368, ca 1, gp_50), (zs, 150, 120000, ca 1, D_50.s), (zn, 151, 120000, ca 1, D_50.n), (za, 152, 120000, ca 1, D_50.a), (zb, 153, 120000, ca 1, D_50.b), (zc, 154, 120000, ca 1, D_50.c), (zy, 165, 16, ca 1, D_50.y), (begin_23, 190, 40, ca 1, gb_16), (end_26, 191, 40, ca 1, ge_16), (cs, 207, 2, ca 1, fs)]) [0, 1, 2, 3, 4, 5, 6, 7, 8, 9, 10, 11, 12] rfl (I1 := [(jFs, jDY dC dI ca G0 none (jUn sn td qs_16)), (jF9, jVl dC dI G0 9 ck), ([(201, 0)], jQc dC dI (ca 4) dd 3 fd), ([(208, 0)], jQc dC dI (ca 4) co 2 fo)]) [0, 1, 2, 3] rfl
                            clear hh_64
                            obtain ⟨z_66, ez_66⟩ : ∃ y : Int32, y = v4_35 + 1 := ⟨_, rfl⟩
                            refine lv_iinc (v := z_66) (lv' := [(4, .int z_66), (0, .ref r0), (1, .int a1), (2, .int v2_7), (3, .int v3_8)]) hx hb dX14_batch_315 hl (k := 4) rfl (by rw [ez_66]; rfl) (by decide) rfl (fun ls hl => ?_)
                            have hz_66 : z_66.toInt = v4_35.toInt + 1 := by rw [ez_66]; exact jb_iadd2 (rfl) (by decide) (by omega)
                            refine lv_goto (tgt := 207) hx hb dX14_batch_318 (by decide) ?_
                            exact L207 z_66 qn_50 qy_50 qf_50 qg_50 qp_50 ql_50 qc_50 qs_50 gf_50 gg_50 gh_50 gp_50 D_50 _ _ (hh_65.sub (L1 := [(kr, 15, 5, .int qn_50), (kr, 15, 11, .int qy_50), (kr, 15, 15, .int qf_50), (kr, 15, 21, .int qg_50), (kr, 15, 18, .int qp_50), (kr, 15, 20, .int ql_50), (kr, 15, 10, .int qc_50), (kr, 15, 7, .int qs_50), (td, 14, 5, .int qs_16), (td, 14, 7, .ref end_26), (td, 14, 6, .ref begin_23), (td, 14, 4, .int v2_7), (r0, 16, 1, .int 0), (r0, 16, 58, .ref kr), (kr, 15, 17, .ref zf), (kr, 15, 22, .ref zg), (kr, 15, 25, .ref zh), (kr, 15, 27, .ref zp), (r0, 16, 41, .ref dd), (r0, 16, 42, .int dc), (r0, 16, 60, .ref co), (r0, 16, 61, .ref cs), (r0, 16, 46, .ref ol), (r0, 16, 47, .ref nw), (r0, 16, 71, .ref td), (kr, 15, 0, .ref zs), (kr, 15, 1, .ref zn), (kr, 15, 2, .ref za), (kr, 15, 3, .ref zb), (kr, 15, 4, .ref zc), (kr, 15, 14, .ref zy)]) [0, 1, 2, 3, 4, 5, 6, 7, 8, 9, 10, 11, 12, 13, 14, 15, 16, 17, 18, 19, 20, 21, 22, 23, 24, 25, 26, 27, 28, 29, 30] rfl (M1 := [(zs, 150, 120000, ca 1, D_50.s), (zn, 151, 120000, ca 1, D_50.n), (za, 152, 120000, ca 1, D_50.a), (zb, 153, 120000, ca 1, D_50.b), (zc, 154, 120000, ca 1, D_50.c), (zy, 165, 16, ca 1, D_50.y), (zp, 162, 368, ca 1, gp_50), (zh, 159, 46, ca 1, gh_50), (zg, 161, 46, ca 1, gg_50), (zf, 160, 16, ca 1, gf_50), (begin_23, 190, 40, ca 1, gb_16), (end_26, 191, 40, ca 1, ge_16), (cs, 207, 2, ca 1, fs)]) [4, 5, 6, 7, 8, 9, 3, 2, 1, 0, 10, 11, 12] rfl (I1 := [(jFs, jDY dC dI ca G0 none (jUn sn td qs_16)), (jF9, jVl dC dI G0 9 ck), ([(201, 0)], jQc dC dI (ca 4) dd 3 fd), ([(208, 0)], jQc dC dI (ca 4) co 2 fo)]) [0, 1, 2, 3] rfl) (⟨(by first | omega | rfl | assumption | exact jKi.zero (by omega) (by omega) (by omega) (by omega) (by omega) | (intro _; rw [hk0]; have h9 := (hsB 0 (by omega) (by omega)).1; exact ⟨by omega, by omega, by omega⟩) | exact hr_51_6 | (intro h9; rw [show (z_66).toInt = v4_35.toInt + 1 by omega]; have h8 := s4 (by omega); exact ⟨by omega, by omega, by omega⟩)), (by first | omega | rfl | assumption | exact jKi.zero (by omega) (by omega) (by omega) (by omega) (by omega) | (intro _; rw [hk0]; have h9 := (hsB 0 (by omega) (by omega)).1; exact ⟨by omega, by omega, by omega⟩) | exact hr_51_6 | (intro h9; rw [show (z_66).toInt = v4_35.toInt + 1 by omega]; have h8 := s4 (by omega); exact ⟨by omega, by omega, by omega⟩)), (by first | assumption | exact jKi.zero (by omega) (by omega) (by omega) (by omega) (by omega) | (intro _; rw [hk0]; have h9 := (hsB 0 (by omega) (by omega)).1; exact ⟨by omega, by omega, by omega⟩) | exact hr_51_6 | (intro h9; rw [show (z_66).toInt = v4_35.toInt + 1 by omega]; have h8 := s4 (by omega); exact ⟨by omega, by omega, by omega⟩) | omega), (by first | omega | rfl | assumption | exact jKi.zero (by omega) (by omega) (by omega) (by omega) (by omega) | (intro _; rw [hk0]; have h9 := (hsB 0 (by omega) (by omega)).1; exact ⟨by omega, by omega, by omega⟩) | exact hr_51_6 | (intro h9; rw [show (z_66).toInt = v4_35.toInt + 1 by omega]; have h8 := s4 (by omega); exact ⟨by omega, by omega, by omega⟩)), (by first | omega | rfl | assumption | exact jKi.zero (by omega) (by omega) (by omega) (by omega) (by omega) | (intro _; rw [hk0]; have h9 := (hsB 0 (by omega) (by omega)).1; exact ⟨by omega, by omega, by omega⟩) | exact hr_51_6 | (intro h9; rw [show (z_66).toInt = v4_35.toInt + 1 by omega]; have h8 := s4 (by omega); exact ⟨by omega, by omega, by omega⟩)), (by first | omega | rfl | assumption | exact jKi.zero (by omega) (by omega) (by omega) (by omega) (by omega) | (intro _; rw [hk0]; have h9 := (hsB 0 (by omega) (by omega)).1; exact ⟨by omega, by omega, by omega⟩) | exact hr_51_6 | (intro h9; rw [show (z_66).toInt = v4_35.toInt + 1 by omega]; have h8 := s4 (by omega); exact ⟨by omega, by omega, by omega⟩)), (by first | omega | rfl | assumption | exact jKi.zero (by omega) (by omega) (by omega) (by omega) (by omega) | (intro _; rw [hk0]; have h9 := (hsB 0 (by omega) (by omega)).1; exact ⟨by omega, by omega, by omega⟩) | exact hr_51_6 | (intro h9; rw [show (z_66).toInt = v4_35.toInt + 1 by omega]; have h8 := s4 (by omega); exact ⟨by omega, by omega, by omega⟩)), (by first | omega | rfl | assumption | exact jKi.zero (by omega) (by omega) (by omega) (by omega) (by omega) | (intro _; rw [hk0]; have h9 := (hsB 0 (by omega) (by omega)).1; exact ⟨by omega, by omega, by omega⟩) | exact hr_51_6 | (intro h9; rw [show (z_66).toInt = v4_35.toInt + 1 by omega]; have h8 := s4 (by omega); exact ⟨by omega, by omega, by omega⟩)), (by first | omega | rfl | assumption | exact jKi.zero (by omega) (by omega) (by omega) (by omega) (by omega) | (intro _; rw [hk0]; have h9 := (hsB 0 (by omega) (by omega)).1; exact ⟨by omega, by omega, by omega⟩) | exact hr_51_6 | (intro h9; rw [show (z_66).toInt = v4_35.toInt + 1 by omega]; have h8 := s4 (by omega); exact ⟨by omega, by omega, by omega⟩)), (by first | assumption | exact jKi.zero (by omega) (by omega) (by omega) (by omega) (by omega) | (intro _; rw [hk0]; have h9 := (hsB 0 (by omega) (by omega)).1; exact ⟨by omega, by omega, by omega⟩) | exact hr_51_6 | (intro h9; rw [show (z_66).toInt = v4_35.toInt + 1 by omega]; have h8 := s4 (by omega); exact ⟨by omega, by omega, by omega⟩) | omega)⟩) (by omega) _ (lv_sub hl [1, 2, 3, 4, 0] rfl)
                          · skip
                            have c_58' : qp_50.toInt ≠ 0 := jb_eq_n (rfl) ((by decide)) c_58
                            refine lv_aload_n hx hb dX14_batch_289 rfl (lv_at hl 0 rfl) ?_
                            refine j7_read hx hb hown hK (C := RX14) (T := TX14) (N := 74) rfl hly_16_58 hlk_122 (hh_56.at 14 rfl) dX14_batch_290 ?_
                            refine j7_readN hx hb hown hK (C := RX13) (T := TX13) (N := 50) rfl hly_15_21 hlk_653 (hh_56.at 4 rfl) dX14_batch_293 ?_
                            refine lv_goto (tgt := 300) hx hb dX14_batch_296 (by decide) ?_
                            refine j7_iast hx hb hK hh_56 hB hB101 1 rfl (by decide) (by decide) rfl rfl rfl hg_toldGoals_57 (x := v4_35.toInt) (rfl) (by omega) (trivial) dX14_batch_300 (fun H_67 locs_67 hh_67 => ?_)
                            clear hh_56
                            have hh_68 := hh_67.sub (L1 := [(kr, 15, 5, .int qn_50), (kr, 15, 11, .int qy_50), (kr, 15, 15, .int qf_50), (kr, 15, 21, .int qg_50), (kr, 15, 18, .int qp_50), (kr, 15, 20, .int ql_50), (kr, 15, 10, .int qc_50), (kr, 15, 7, .int qs_50), (td, 14, 5, .int qs_16), (td, 14, 7, .ref end_26), (td, 14, 6, .ref begin_23), (td, 14, 4, .int v2_7), (r0, 16, 1, .int 0), (r0, 16, 58, .ref kr), (kr, 15, 17, .ref zf), (kr, 15, 22, .ref zg), (kr, 15, 25, .ref zh), (kr, 15, 27, .ref zp), (r0, 16, 41, .ref dd), (r0, 16, 42, .int dc), (r0, 16, 60, .ref co), (r0, 16, 61, .ref cs), (r0, 16, 46, .ref ol), (r0, 16, 47, .ref nw), (r0, 16, 71, .ref td), (kr, 15, 0, .ref zs), (kr, 15, 1, .ref zn), (kr, 15, 2, .ref za), (kr, 15, 3, .ref zb), (kr, 15, 4, .ref zc), (kr, 15, 14, .ref zy)]) [1, 2, 3, 4, 5, 6, 7, 8, 9, 10, 11, 12, 13, 14, 15, 16, 17, 18, 19, 20, 21, 22, 23, 24, 25, 26, 27, 28, 29, 30, 31] rfl (M1 := [(zf, 160, 16, ca 1, gf_50), (zg, 161, 46, ca 1, gg_50), (zh, 159, 46, ca 1, gh_50), (zp, 162, 368, ca 1, gp_50), (zs, 150, 120000, ca 1, D_50.s), (zn, 151, 120000, ca 1, D_50.n), (za, 152, 120000, ca 1, D_50.a), (zb, 153, 120000, ca 1, D_50.b), (zc, 154, 120000, ca 1, D_50.c), (zy, 165, 16, ca 1, D_50.y), (begin_23, 190, 40, ca 1, gb_16), (end_26, 191, 40, ca 1, ge_16), (cs, 207, 2, ca 1, fs)]) [0, 1, 2, 3, 4, 5, 6, 7, 8, 9, 10, 11, 12] rfl (I1 := [(jFs, jDY dC dI ca G0 none (jUn sn td qs_16)), (jF9, jVl dC dI G0 9 ck), ([(201, 0)], jQc dC dI (ca 4) dd 3 fd), ([(208, 0)], jQc dC dI (ca 4) co 2 fo)]) [0, 1, 2, 3] rfl
                            clear hh_67
                            refine lv_aload_n hx hb dX14_batch_301 rfl (lv_at hl 0 rfl) ?_
                            obtain ⟨v_69, hv_69, hh_70⟩ := hh_68.pin (C := RX14) (T := TX14) (N := 74) hB16 rfl (by decide) hg_r0 (i := 73) (by decide) rfl
                            clear hh_68
                            obtain ⟨toldFacts_71, rfl, hg_toldFacts_71⟩ := hv_69
                            refine j7_read hx hb hown hK (C := RX14) (T := TX14) (N := 74) rfl hly_16_73 hlk_157 (hh_70.at 0 rfl) dX14_batch_302 ?_
                            refine lv_iload hx hb dX14_batch_305 (lv_at hl 4 rfl) ?_
                            refine lv_aload_n hx hb dX14_batch_307 rfl (lv_at hl 0 rfl) ?_
                            refine j7_read hx hb hown hK (C := RX14) (T := TX14) (N := 74) rfl hly_16_58 hlk_122 (hh_70.at 14 rfl) dX14_batch_308 ?_
                            refine j7_readN hx hb hown hK (C := RX13) (T := TX13) (N := 50) rfl hly_15_15 hlk_661 (hh_70.at 3 rfl) dX14_batch_311 ?_
                            refine j7_iast hx hb hK hh_70 hB hB101 1 rfl (by decide) (by decide) rfl rfl rfl hg_toldFacts_71 (x := v4_35.toInt) (rfl) (by omega) (trivial) dX14_batch_314 (fun H_72 locs_72 hh_72 => ?_)
                            clear hh_70
                            have hh_73 := hh_72.sub (L1 := [(kr, 15, 5, .int qn_50), (kr, 15, 11, .int qy_50), (kr, 15, 15, .int qf_50), (kr, 15, 21, .int qg_50), (kr, 15, 18, .int qp_50), (kr, 15, 20, .int ql_50), (kr, 15, 10, .int qc_50), (kr, 15, 7, .int qs_50), (td, 14, 5, .int qs_16), (td, 14, 7, .ref end_26), (td, 14, 6, .ref begin_23), (td, 14, 4, .int v2_7), (r0, 16, 1, .int 0), (r0, 16, 58, .ref kr), (kr, 15, 17, .ref zf), (kr, 15, 22, .ref zg), (kr, 15, 25, .ref zh), (kr, 15, 27, .ref zp), (r0, 16, 41, .ref dd), (r0, 16, 42, .int dc), (r0, 16, 60, .ref co), (r0, 16, 61, .ref cs), (r0, 16, 46, .ref ol), (r0, 16, 47, .ref nw), (r0, 16, 71, .ref td), (kr, 15, 0, .ref zs), (kr, 15, 1, .ref zn), (kr, 15, 2, .ref za), (kr, 15, 3, .ref zb), (kr, 15, 4, .ref zc), (kr, 15, 14, .ref zy)]) [1, 2, 3, 4, 5, 6, 7, 8, 9, 10, 11, 12, 13, 14, 15, 16, 17, 18, 19, 20, 21, 22, 23, 24, 25, 26, 27, 28, 29, 30, 31] rfl (M1 := [(zf, 160, 16, ca 1, gf_50), (zg, 161, 46, ca 1, gg_50), (zh, 159, 46, ca 1, gh_50), (zp, 162, 368, ca 1, gp_50), (zs, 150, 120000, ca 1, D_50.s), (zn, 151, 120000, ca 1, D_50.n), (za, 152, 120000, ca 1, D_50.a), (zb, 153, 120000, ca 1, D_50.b), (zc, 154, 120000, ca 1, D_50.c), (zy, 165, 16, ca 1, D_50.y), (begin_23, 190, 40, ca 1, gb_16), (end_26, 191, 40, ca 1, ge_16), (cs, 207, 2, ca 1, fs)]) [0, 1, 2, 3, 4, 5, 6, 7, 8, 9, 10, 11, 12] rfl (I1 := [(jFs, jDY dC dI ca G0 none (jUn sn td qs_16)), (jF9, jVl dC dI G0 9 ck), ([(201, 0)], jQc dC dI (ca 4) dd 3 fd), ([(208, 0)], jQc dC dI (ca 4) co 2 fo)]) [0, 1, 2, 3] rfl
                            clear hh_72
                            obtain ⟨z_74, ez_74⟩ : ∃ y : Int32, y = v4_35 + 1 := ⟨_, rfl⟩
                            refine lv_iinc (v := z_74) (lv' := [(4, .int z_74), (0, .ref r0), (1, .int a1), (2, .int v2_7), (3, .int v3_8)]) hx hb dX14_batch_315 hl (k := 4) rfl (by rw [ez_74]; rfl) (by decide) rfl (fun ls hl => ?_)
                            have hz_74 : z_74.toInt = v4_35.toInt + 1 := by rw [ez_74]; exact jb_iadd2 (rfl) (by decide) (by omega)
                            refine lv_goto (tgt := 207) hx hb dX14_batch_318 (by decide) ?_
                            exact L207 z_74 qn_50 qy_50 qf_50 qg_50 qp_50 ql_50 qc_50 qs_50 gf_50 gg_50 gh_50 gp_50 D_50 _ _ (hh_73.sub (L1 := [(kr, 15, 5, .int qn_50), (kr, 15, 11, .int qy_50), (kr, 15, 15, .int qf_50), (kr, 15, 21, .int qg_50), (kr, 15, 18, .int qp_50), (kr, 15, 20, .int ql_50), (kr, 15, 10, .int qc_50), (kr, 15, 7, .int qs_50), (td, 14, 5, .int qs_16), (td, 14, 7, .ref end_26), (td, 14, 6, .ref begin_23), (td, 14, 4, .int v2_7), (r0, 16, 1, .int 0), (r0, 16, 58, .ref kr), (kr, 15, 17, .ref zf), (kr, 15, 22, .ref zg), (kr, 15, 25, .ref zh), (kr, 15, 27, .ref zp), (r0, 16, 41, .ref dd), (r0, 16, 42, .int dc), (r0, 16, 60, .ref co), (r0, 16, 61, .ref cs), (r0, 16, 46, .ref ol), (r0, 16, 47, .ref nw), (r0, 16, 71, .ref td), (kr, 15, 0, .ref zs), (kr, 15, 1, .ref zn), (kr, 15, 2, .ref za), (kr, 15, 3, .ref zb), (kr, 15, 4, .ref zc), (kr, 15, 14, .ref zy)]) [0, 1, 2, 3, 4, 5, 6, 7, 8, 9, 10, 11, 12, 13, 14, 15, 16, 17, 18, 19, 20, 21, 22, 23, 24, 25, 26, 27, 28, 29, 30] rfl (M1 := [(zs, 150, 120000, ca 1, D_50.s), (zn, 151, 120000, ca 1, D_50.n), (za, 152, 120000, ca 1, D_50.a), (zb, 153, 120000, ca 1, D_50.b), (zc, 154, 120000, ca 1, D_50.c), (zy, 165, 16, ca 1, D_50.y), (zp, 162, 368, ca 1, gp_50), (zh, 159, 46, ca 1, gh_50), (zg, 161, 46, ca 1, gg_50), (zf, 160, 16, ca 1, gf_50), (begin_23, 190, 40, ca 1, gb_16), (end_26, 191, 40, ca 1, ge_16), (cs, 207, 2, ca 1, fs)]) [4, 5, 6, 7, 8, 9, 3, 2, 1, 0, 10, 11, 12] rfl (I1 := [(jFs, jDY dC dI ca G0 none (jUn sn td qs_16)), (jF9, jVl dC dI G0 9 ck), ([(201, 0)], jQc dC dI (ca 4) dd 3 fd), ([(208, 0)], jQc dC dI (ca 4) co 2 fo)]) [0, 1, 2, 3] rfl) (⟨(by first | omega | rfl | assumption | exact jKi.zero (by omega) (by omega) (by omega) (by omega) (by omega) | (intro _; rw [hk0]; have h9 := (hsB 0 (by omega) (by omega)).1; exact ⟨by omega, by omega, by omega⟩) | exact hr_51_6 | (intro h9; rw [show (z_74).toInt = v4_35.toInt + 1 by omega]; have h8 := s4 (by omega); exact ⟨by omega, by omega, by omega⟩)), (by first | omega | rfl | assumption | exact jKi.zero (by omega) (by omega) (by omega) (by omega) (by omega) | (intro _; rw [hk0]; have h9 := (hsB 0 (by omega) (by omega)).1; exact ⟨by omega, by omega, by omega⟩) | exact hr_51_6 | (intro h9; rw [show (z_74).toInt = v4_35.toInt + 1 by omega]; have h8 := s4 (by omega); exact ⟨by omega, by omega, by omega⟩)), (by first | assumption | exact jKi.zero (by omega) (by omega) (by omega) (by omega) (by omega) | (intro _; rw [hk0]; have h9 := (hsB 0 (by omega) (by omega)).1; exact ⟨by omega, by omega, by omega⟩) | exact hr_51_6 | (intro h9; rw [show (z_74).toInt = v4_35.toInt + 1 by omega]; have h8 := s4 (by omega); exact ⟨by omega, by omega, by omega⟩) | omega), (by first | omega | rfl | assumption | exact jKi.zero (by omega) (by omega) (by omega) (by omega) (by omega) | (intro _; rw [hk0]; have h9 := (hsB 0 (by omega) (by omega)).1; exact ⟨by omega, by omega, by omega⟩) | exact hr_51_6 | (intro h9; rw [show (z_74).toInt = v4_35.toInt + 1 by omega]; have h8 := s4 (by omega); exact ⟨by omega, by omega, by omega⟩)), (by first | omega | rfl | assumption | exact jKi.zero (by omega) (by omega) (by omega) (by omega) (by omega) | (intro _; rw [hk0]; have h9 := (hsB 0 (by omega) (by omega)).1; exact ⟨by omega, by omega, by omega⟩) | exact hr_51_6 | (intro h9; rw [show (z_74).toInt = v4_35.toInt + 1 by omega]; have h8 := s4 (by omega); exact ⟨by omega, by omega, by omega⟩)), (by first | omega | rfl | assumption | exact jKi.zero (by omega) (by omega) (by omega) (by omega) (by omega) | (intro _; rw [hk0]; have h9 := (hsB 0 (by omega) (by omega)).1; exact ⟨by omega, by omega, by omega⟩) | exact hr_51_6 | (intro h9; rw [show (z_74).toInt = v4_35.toInt + 1 by omega]; have h8 := s4 (by omega); exact ⟨by omega, by omega, by omega⟩)), (by first | omega | rfl | assumption | exact jKi.zero (by omega) (by omega) (by omega) (by omega) (by omega) | (intro _; rw [hk0]; have h9 := (hsB 0 (by omega) (by omega)).1; exact ⟨by omega, by omega, by omega⟩) | exact hr_51_6 | (intro h9; rw [show (z_74).toInt = v4_35.toInt + 1 by omega]; have h8 := s4 (by omega); exact ⟨by omega, by omega, by omega⟩)), (by first | omega | rfl | assumption | exact jKi.zero (by omega) (by omega) (by omega) (by omega) (by omega) | (intro _; rw [hk0]; have h9 := (hsB 0 (by omega) (by omega)).1; exact ⟨by omega, by omega, by omega⟩) | exact hr_51_6 | (intro h9; rw [show (z_74).toInt = v4_35.toInt + 1 by omega]; have h8 := s4 (by omega); exact ⟨by omega, by omega, by omega⟩)), (by first | omega | rfl | assumption | exact jKi.zero (by omega) (by omega) (by omega) (by omega) (by omega) | (intro _; rw [hk0]; have h9 := (hsB 0 (by omega) (by omega)).1; exact ⟨by omega, by omega, by omega⟩) | exact hr_51_6 | (intro h9; rw [show (z_74).toInt = v4_35.toInt + 1 by omega]; have h8 := s4 (by omega); exact ⟨by omega, by omega, by omega⟩)), (by first | assumption | exact jKi.zero (by omega) (by omega) (by omega) (by omega) (by omega) | (intro _; rw [hk0]; have h9 := (hsB 0 (by omega) (by omega)).1; exact ⟨by omega, by omega, by omega⟩) | exact hr_51_6 | (intro h9; rw [show (z_74).toInt = v4_35.toInt + 1 by omega]; have h8 := s4 (by omega); exact ⟨by omega, by omega, by omega⟩) | omega)⟩) (by omega) _ (lv_sub hl [1, 2, 3, 4, 0] rfl)
                    obtain ⟨v_75, hv_75, hh_76⟩ := hh_33.pin (C := RX13) (T := TX13) (N := 50) hB15 rfl (by decide) hg_kr (i := 20) (by decide) rfl
                    obtain ⟨lemma_77, rfl, hlolemma_77, hhilemma_77⟩ := hv_75
                    exact L207 (qs_16.toInt - (0 : Int32).toInt : Int).toNat.succ 0 qn_33 qy_33 qf_33 qg_33 qp_33 lemma_77 qc_33 qs_33 ff fg fh fp C _ _ (hh_76.sub (L1 := [(kr, 15, 5, .int qn_33), (kr, 15, 11, .int qy_33), (kr, 15, 15, .int qf_33), (kr, 15, 21, .int qg_33), (kr, 15, 18, .int qp_33), (kr, 15, 20, .int lemma_77), (kr, 15, 10, .int qc_33), (kr, 15, 7, .int qs_33), (td, 14, 5, .int qs_16), (td, 14, 7, .ref end_26), (td, 14, 6, .ref begin_23), (td, 14, 4, .int v2_7), (r0, 16, 1, .int 0), (r0, 16, 58, .ref kr), (kr, 15, 17, .ref zf), (kr, 15, 22, .ref zg), (kr, 15, 25, .ref zh), (kr, 15, 27, .ref zp), (r0, 16, 41, .ref dd), (r0, 16, 42, .int dc), (r0, 16, 60, .ref co), (r0, 16, 61, .ref cs), (r0, 16, 46, .ref ol), (r0, 16, 47, .ref nw), (r0, 16, 71, .ref td), (kr, 15, 0, .ref zs), (kr, 15, 1, .ref zn), (kr, 15, 2, .ref za), (kr, 15, 3, .ref zb), (kr, 15, 4, .ref zc), (kr, 15, 14, .ref zy)]) [1, 2, 3, 4, 5, 0, 6, 7, 8, 9, 10, 12, 13, 14, 15, 16, 17, 18, 19, 20, 21, 22, 23, 24, 25, 26, 27, 28, 29, 30, 31] rfl (M1 := [(zs, 150, 120000, ca 1, C.s), (zn, 151, 120000, ca 1, C.n), (za, 152, 120000, ca 1, C.a), (zb, 153, 120000, ca 1, C.b), (zc, 154, 120000, ca 1, C.c), (zy, 165, 16, ca 1, C.y), (zp, 162, 368, ca 1, fp), (zh, 159, 46, ca 1, fh), (zg, 161, 46, ca 1, fg), (zf, 160, 16, ca 1, ff), (begin_23, 190, 40, ca 1, gb_16), (end_26, 191, 40, ca 1, ge_16), (cs, 207, 2, ca 1, fs)]) [8, 9, 10, 11, 12, 13, 6, 5, 4, 3, 0, 1, 7] rfl (I1 := [(jFs, jDY dC dI ca G0 none (jUn sn td qs_16)), (jF9, jVl dC dI G0 9 ck), ([(201, 0)], jQc dC dI (ca 4) dd 3 fd), ([(208, 0)], jQc dC dI (ca 4) co 2 fo)]) [0, 1, 2, 3] rfl) (⟨(by first | omega | rfl | assumption | exact jKi.zero (by omega) (by omega) (by omega) (by omega) (by omega) | (intro _; rw [hk0]; have h9 := (hsB 0 (by omega) (by omega)).1; exact ⟨by omega, by omega, by omega⟩) | exact hr_51_6 | (intro h9; rw [show (0).toInt = (zz_none).toInt + 1 by omega]; have h8 := s4 (by omega); exact ⟨by omega, by omega, by omega⟩)), (by first | omega | rfl | assumption | exact jKi.zero (by omega) (by omega) (by omega) (by omega) (by omega) | (intro _; rw [hk0]; have h9 := (hsB 0 (by omega) (by omega)).1; exact ⟨by omega, by omega, by omega⟩) | exact hr_51_6 | (intro h9; rw [show (0).toInt = (zz_none).toInt + 1 by omega]; have h8 := s4 (by omega); exact ⟨by omega, by omega, by omega⟩)), (by first | assumption | exact jKi.zero (by omega) (by omega) (by omega) (by omega) (by omega) | (intro _; rw [hk0]; have h9 := (hsB 0 (by omega) (by omega)).1; exact ⟨by omega, by omega, by omega⟩) | exact hr_51_6 | (intro h9; rw [show (0).toInt = (zz_none).toInt + 1 by omega]; have h8 := s4 (by omega); exact ⟨by omega, by omega, by omega⟩) | omega), (by first | omega | rfl | assumption | exact jKi.zero (by omega) (by omega) (by omega) (by omega) (by omega) | (intro _; rw [hk0]; have h9 := (hsB 0 (by omega) (by omega)).1; exact ⟨by omega, by omega, by omega⟩) | exact hr_51_6 | (intro h9; rw [show (0).toInt = (zz_none).toInt + 1 by omega]; have h8 := s4 (by omega); exact ⟨by omega, by omega, by omega⟩)), (by first | omega | rfl | assumption | exact jKi.zero (by omega) (by omega) (by omega) (by omega) (by omega) | (intro _; rw [hk0]; have h9 := (hsB 0 (by omega) (by omega)).1; exact ⟨by omega, by omega, by omega⟩) | exact hr_51_6 | (intro h9; rw [show (0).toInt = (zz_none).toInt + 1 by omega]; have h8 := s4 (by omega); exact ⟨by omega, by omega, by omega⟩)), (by first | omega | rfl | assumption | exact jKi.zero (by omega) (by omega) (by omega) (by omega) (by omega) | (intro _; rw [hk0]; have h9 := (hsB 0 (by omega) (by omega)).1; exact ⟨by omega, by omega, by omega⟩) | exact hr_51_6 | (intro h9; rw [show (0).toInt = (zz_none).toInt + 1 by omega]; have h8 := s4 (by omega); exact ⟨by omega, by omega, by omega⟩)), (by first | omega | rfl | assumption | exact jKi.zero (by omega) (by omega) (by omega) (by omega) (by omega) | (intro _; rw [hk0]; have h9 := (hsB 0 (by omega) (by omega)).1; exact ⟨by omega, by omega, by omega⟩) | exact hr_51_6 | (intro h9; rw [show (0).toInt = (zz_none).toInt + 1 by omega]; have h8 := s4 (by omega); exact ⟨by omega, by omega, by omega⟩)), (by first | omega | rfl | assumption | exact jKi.zero (by omega) (by omega) (by omega) (by omega) (by omega) | (intro _; rw [hk0]; have h9 := (hsB 0 (by omega) (by omega)).1; exact ⟨by omega, by omega, by omega⟩) | exact hr_51_6 | (intro h9; rw [show (0).toInt = (zz_none).toInt + 1 by omega]; have h8 := s4 (by omega); exact ⟨by omega, by omega, by omega⟩)), (by first | omega | rfl | assumption | exact jKi.zero (by omega) (by omega) (by omega) (by omega) (by omega) | (intro _; rw [hk0]; have h9 := (hsB 0 (by omega) (by omega)).1; exact ⟨by omega, by omega, by omega⟩) | exact hr_51_6 | (intro h9; rw [show (0).toInt = (zz_none).toInt + 1 by omega]; have h8 := s4 (by omega); exact ⟨by omega, by omega, by omega⟩)), (by first | assumption | exact jKi.zero (by omega) (by omega) (by omega) (by omega) (by omega) | (intro _; rw [hk0]; have h9 := (hsB 0 (by omega) (by omega)).1; exact ⟨by omega, by omega, by omega⟩) | exact hr_51_6 | (intro h9; rw [show (0).toInt = (zz_none).toInt + 1 by omega]; have h8 := s4 (by omega); exact ⟨by omega, by omega, by omega⟩) | omega)⟩) (by omega) _ (lv_sub hl [1, 2, 3, 4, 0] rfl)
                  · skip
                    have c_12' : v4_11.toInt < v2_7.toInt := jb_ge_n (rfl) (rfl) c_12
                    refine lv_aload_n hx hb dX14_batch_167 rfl (lv_at hl 0 rfl) ?_
                    refine j7_read hx hb hown hK (C := RX14) (T := TX14) (N := 74) rfl hly_16_71 hlk_151 (hh_11.at 13 rfl) dX14_batch_168 ?_
                    obtain ⟨v_78, hv_78, hh_79⟩ := hh_11.pin (C := RX12) (T := TX12) (N := 11) hB14 rfl (by decide) hg_td (i := 3) (by decide) rfl
                    clear hh_11
                    obtain ⟨text_80, rfl, hg_text_80⟩ := hv_78
                    refine j7_readN hx hb hown hK (C := RX12) (T := TX12) (N := 11) rfl hly_14_3 hlk_529 (hh_79.at 0 rfl) dX14_batch_171 ?_
                    refine lv_iload hx hb dX14_batch_174 (lv_at hl 4 rfl) ?_
                    refine lv_aload_n hx hb dX14_batch_176 rfl (lv_at hl 0 rfl) ?_
                    obtain ⟨v_81, hv_81, hh_82⟩ := hh_79.pin (C := RX14) (T := TX14) (N := 74) hB16 rfl (by decide) hg_r0 (i := 43) (by decide) rfl
                    clear hh_79
                    obtain ⟨changed_83, rfl, hg_changed_83⟩ := hv_81
                    refine j7_read hx hb hown hK (C := RX14) (T := TX14) (N := 74) rfl hly_16_43 hlk_78 (hh_82.at 0 rfl) dX14_batch_177 ?_
                    refine lv_iload hx hb dX14_batch_180 (lv_at hl 4 rfl) ?_
                    refine j7_iald hx hb hK hh_82 hB101 1 rfl (by decide) hg_changed_83 (x := v4_11.toInt) (rfl) (by omega) dX14_batch_182 (fun z_84 (hz_84 : True) => ?_)
                    refine j7_iast hx hb hK hh_82 hB hB101 1 rfl (by decide) (by decide) rfl rfl rfl hg_text_80 (x := v4_11.toInt) (rfl) (by omega) (trivial) dX14_batch_183 (fun H_85 locs_85 hh_85 => ?_)
                    clear hh_82
                    obtain ⟨z_86, ez_86⟩ : ∃ y : Int32, y = v4_11 + 1 := ⟨_, rfl⟩
                    refine lv_iinc (v := z_86) (lv' := [(4, .int z_86), (0, .ref r0), (1, .int a1), (2, .int v2_7), (3, .int v3_8)]) hx hb dX14_batch_184 hl (k := 4) rfl (by rw [ez_86]; rfl) (by decide) rfl (fun ls hl => ?_)
                    have hz_86 : z_86.toInt = v4_11.toInt + 1 := by rw [ez_86]; exact jb_iadd2 (rfl) (by decide) (by omega)
                    refine lv_goto (tgt := 161) hx hb dX14_batch_187 (by decide) ?_
                    exact L161 z_86 _ _ (hh_85.sub (L1 := [(td, 14, 4, .int v2_7), (r0, 16, 1, .int 0), (r0, 16, 58, .ref kr), (kr, 15, 17, .ref zf), (kr, 15, 22, .ref zg), (kr, 15, 25, .ref zh), (kr, 15, 27, .ref zp), (r0, 16, 41, .ref dd), (r0, 16, 42, .int dc), (r0, 16, 60, .ref co), (r0, 16, 61, .ref cs), (r0, 16, 46, .ref ol), (r0, 16, 47, .ref nw), (r0, 16, 71, .ref td), (kr, 15, 0, .ref zs), (kr, 15, 1, .ref zn), (kr, 15, 2, .ref za), (kr, 15, 3, .ref zb), (kr, 15, 4, .ref zc), (kr, 15, 14, .ref zy)]) [2, 3, 4, 5, 6, 7, 8, 9, 10, 11, 12, 13, 14, 15, 16, 17, 18, 19, 20, 21] rfl (M1 := [(zf, 160, 16, ca 1, ff), (zg, 161, 46, ca 1, fg), (zh, 159, 46, ca 1, fh), (zp, 162, 368, ca 1, fp), (cs, 207, 2, ca 1, fs), (zs, 150, 120000, ca 1, C.s), (zn, 151, 120000, ca 1, C.n), (za, 152, 120000, ca 1, C.a), (zb, 153, 120000, ca 1, C.b), (zc, 154, 120000, ca 1, C.c), (zy, 165, 16, ca 1, C.y)]) [0, 1, 2, 3, 4, 5, 6, 7, 8, 9, 10] rfl (I1 := [(jFs, jDY dC dI ca G0 none sn), (jF9, jVl dC dI G0 9 ck), ([(201, 0)], jQc dC dI (ca 4) dd 3 fd), ([(208, 0)], jQc dC dI (ca 4) co 2 fo)]) [0, 1, 2, 3] rfl) (by first | omega | (refine ⟨?_, ?_⟩ <;> (first | omega | rfl | assumption | decide | exact Or.inl rfl | exact Or.inr rfl | (simp only; omega)))) (by omega) _ (lv_sub hl [1, 2, 3, 4, 0] rfl)
              exact L161 (1500 - (0 : Int32).toInt : Int).toNat.succ 0 _ _ hh_10 (by first | omega | (refine ⟨?_, ?_⟩ <;> (first | omega | rfl | assumption | decide | exact Or.inl rfl | exact Or.inr rfl | (simp only; omega)))) (by omega) _ (lv_sub hl [1, 2, 3, 4, 0] rfl)
            · skip
              have c_9' : v2_7.toInt > 1500 := jb_le_n (rfl) ((by decide)) c_9
              refine lv_bipush (v := (-2)) hx hb dX14_batch_147 (by decide) ?_
              rw [hQ]
              exact W.iret (v := (-2)) hx hb hr (fun t ht hW => ⟨⟨(-2), (ff, fg, fh, fp, C), rfl, trivial, ⟨⟨hh_8.rt (M1 := []) [] rfl ht, by rw [ht]; exact hh_8.2.2.2.2.2.2.2.1.sub [0, 1, 2, 3, 5, 6, 7, 8, 9, 10] rfl⟩, by rw [ht]; exact ⟨sn, ck, fs, fd, fo, dc, hh_8.2.2.1.sub (L1 := [(r0, 16, 41, .ref dd), (r0, 16, 42, .int dc), (r0, 16, 60, .ref co), (r0, 16, 61, .ref cs), (r0, 16, 46, .ref ol), (r0, 16, 47, .ref nw), (r0, 16, 71, .ref td)]) [6, 7, 8, 9, 10, 11, 12] rfl, hh_8.2.2.2.2.2.2.2.1.sub (L1 := [(cs, 207, 2, ca 1, fs)]) [4] rfl, hh_8.2.2.2.2.2.2.2.2.sub (L1 := [(jFs, jDY dC dI ca G0 none sn), (jF9, jVl dC dI G0 9 ck), ([(201, 0)], jQc dC dI (ca 4) dd 3 fd), ([(208, 0)], jQc dC dI (ca 4) co 2 fo)]) [0, 1, 2, 3] rfl, hp0⟩⟩⟩, by rw [ht]; try exact hh_8.1.1, fun q h9 hq => by rw [ht]; try exact hh_8.1.2.1 q h9 hq⟩) hh_8.1.2.2 dX14_batch_149
          refine lv_icmp_ge (tgt := 140) hx hb dX14_batch_25 (by decide) (fun c_87 => ?_) (fun c_87 => ?_)
          · skip
            have c_87' : v3_7.toInt ≥ a1.toInt := jb_ge (rfl) (rfl) c_87
            exact C140 v3_7 _ _ hh_7 (by first | omega | (refine ⟨?_, ?_⟩ <;> (first | omega | rfl | assumption | decide | exact Or.inl rfl | exact Or.inr rfl | (simp only; omega)))) _ (lv_sub hl [0, 1, 2, 3] rfl)
          · skip
            have c_87' : v3_7.toInt < a1.toInt := jb_ge_n (rfl) (rfl) c_87
            refine lv_aload_n hx hb dX14_batch_28 rfl (lv_at hl 0 rfl) ?_
            refine lv_aload_n hx hb dX14_batch_29 rfl (lv_at hl 0 rfl) ?_
            obtain ⟨v_88, hv_88, hh_89⟩ := hh_7.pin (C := RX14) (T := TX14) (N := 74) hB16 rfl (by decide) hg_r0 (i := 0) (by decide) rfl
            clear hh_7
            obtain ⟨tape_90, rfl, hg_tape_90⟩ := hv_88
            refine j7_read hx hb hown hK (C := RX14) (T := TX14) (N := 74) rfl hly_16_0 hlk_9 (hh_89.at 0 rfl) dX14_batch_30 ?_
            refine lv_iload_n hx hb dX14_batch_33 rfl (lv_at hl 3 rfl) ?_
            refine lv_iload_n hx hb dX14_batch_34 rfl (lv_at hl 1 rfl) ?_
            refine va_calli (A0 := jA base) (H0 := s.heap) (va_runV (As := [.ref tape_90, .int v3_7, .int a1]) (rest := []) ⟨hx, hb, hml, hown, hts⟩ (uX14_utfLength l dC dI ca base B hB hAp hB16 hB110 G0 H_7 r0 tape_90 v3_7 a1 4000) (cwV 3 hts (jgV (jWr_52 _ (List.mem_of_getElem? (i := 14) rfl)) (jWr_52 _ (List.mem_of_getElem? (i := 15) rfl)) (jWr_52 _ (List.mem_of_getElem? (i := 16) rfl)) (jWr_1 _ (List.mem_of_getElem? (i := 5) rfl)) (jWr_52 _ (List.mem_of_getElem? (i := 17) rfl))) rfl rfl rfl (by decide +kernel) ⟨by rw [← hR]; exact Nat.le_of_ble_eq_true rfl, by rw [← hR]; exact Nat.le_of_ble_eq_true rfl⟩) ⟨fun a U g mk q => by obtain ⟨q0, q1, q2, qK, q10, q11, q12, q13⟩ := q; exact ⟨q0, q1, q2, jG.calling g mk a qK, q10, q11, q12, q13⟩, hh_89.recv (C := RX14) (T := TX14) (N := 74) hB16 rfl (by decide) hg_r0 hK, fun U hU hW => ⟨rfl, hU, hh_89.2.1, hG.step hW hU hh_89.1, hg_tape_90, hg_r0, jP.nil, by first | omega | (refine ⟨?_, ?_, ?_, ?_⟩ <;> (first | omega | rfl | assumption | decide | exact Or.inl rfl | exact Or.inr rfl | (simp only; omega)))⟩⟩ rfl rfl hl.1 rfl (lv_room (Nat.le_of_ble_eq_true rfl)) dX14_batch_35 ⟨Nat.zero_le _, Nat.zero_le _⟩) hh_89.1 (fun q _ h => h) (fun q h => h) (fun r_92 u_91 t_91 H_91 locs_91 ht_91 hvm_91 hr_92 hb_91 hz_91 hk_91 hS_91 => ?_)
            obtain ⟨qc_91, rfl⟩ : ∃ z, z = u_91 := ⟨_, rfl⟩
            rw [ht_91] at hb_91
            obtain ⟨hb_911, hb_912, hb_913, hb_914, hb_915⟩ := hb_91
            have hh_91 : jSt (dC, dI) B base G0 G0 EX14_batch s.heap 0 0 [(r0, 16, 33, .int qc_91), (r0, 16, 0, .ref tape_90), (r0, 16, 1, .int 0), (r0, 16, 58, .ref kr), (kr, 15, 17, .ref zf), (kr, 15, 22, .ref zg), (kr, 15, 25, .ref zh), (kr, 15, 27, .ref zp), (r0, 16, 41, .ref dd), (r0, 16, 42, .int dc), (r0, 16, 60, .ref co), (r0, 16, 61, .ref cs), (r0, 16, 46, .ref ol), (r0, 16, 47, .ref nw), (r0, 16, 71, .ref td), (kr, 15, 0, .ref zs), (kr, 15, 1, .ref zn), (kr, 15, 2, .ref za), (kr, 15, 3, .ref zb), (kr, 15, 4, .ref zc), (kr, 15, 14, .ref zy)] [(zf, 160, 16, ca 1, ff), (zg, 161, 46, ca 1, fg), (zh, 159, 46, ca 1, fh), (zp, 162, 368, ca 1, fp), (cs, 207, 2, ca 1, fs), (zs, 150, 120000, ca 1, C.s), (zn, 151, 120000, ca 1, C.n), (za, 152, 120000, ca 1, C.a), (zb, 153, 120000, ca 1, C.b), (zc, 154, 120000, ca 1, C.c), (zy, 165, 16, ca 1, C.y)] [(jFs, jDY dC dI ca G0 none sn), (jF9, jVl dC dI G0 9 ck), ([(201, 0)], jQc dC dI (ca 4) dd 3 fd), ([(208, 0)], jQc dC dI (ca 4) co 2 fo)] H_91 locs_91 := ((hh_89.call hb_911 hb_912 hb_913 hb_914 hS_91 rfl (L1 := [(r0, 16, 0, .ref tape_90), (r0, 16, 1, .int 0), (r0, 16, 58, .ref kr), (kr, 15, 17, .ref zf), (kr, 15, 22, .ref zg), (kr, 15, 25, .ref zh), (kr, 15, 27, .ref zp), (r0, 16, 41, .ref dd), (r0, 16, 42, .int dc), (r0, 16, 60, .ref co), (r0, 16, 61, .ref cs), (r0, 16, 46, .ref ol), (r0, 16, 47, .ref nw), (r0, 16, 71, .ref td), (kr, 15, 0, .ref zs), (kr, 15, 1, .ref zn), (kr, 15, 2, .ref za), (kr, 15, 3, .ref zb), (kr, 15, 4, .ref zc), (kr, 15, 14, .ref zy)]) [0, 1, 2, 3, 4, 5, 6, 7, 8, 9, 10, 11, 12, 13, 14, 15, 16, 17, 18, 19] rfl rfl (M1 := [(zf, 160, 16, ca 1, ff), (zg, 161, 46, ca 1, fg), (zh, 159, 46, ca 1, fh), (zp, 162, 368, ca 1, fp), (cs, 207, 2, ca 1, fs), (zs, 150, 120000, ca 1, C.s), (zn, 151, 120000, ca 1, C.n), (za, 152, 120000, ca 1, C.a), (zb, 153, 120000, ca 1, C.b), (zc, 154, 120000, ca 1, C.c), (zy, 165, 16, ca 1, C.y)]) [0, 1, 2, 3, 4, 5, 6, 7, 8, 9, 10] rfl rfl (I1 := [(jFs, jDY dC dI ca G0 none sn), (jF9, jVl dC dI G0 9 ck), ([(201, 0)], jQc dC dI (ca 4) dd 3 fd), ([(208, 0)], jQc dC dI (ca 4) co 2 fo)]) [0, 1, 2, 3] rfl rfl).more hb_915)
            clear hh_89 ht_91 hvm_91 hz_91 hk_91 hS_91 hb_911 hb_912 hb_913 hb_914 hb_915
            refine lv_istore (lv' := [(4, .int r_92), (0, .ref r0), (1, .int a1), (2, .int v2_7), (3, .int v3_7)]) hx hb dX14_batch_38 hl (by decide) rfl (fun ls hl => ?_)
            refine lv_iload hx hb dX14_batch_40 (lv_at hl 0 rfl) ?_
            refine lv_if_ne (tgt := 50) hx hb dX14_batch_42 (by decide) (fun c_93 => ?_) (fun c_93 => ?_)
            · skip
              have c_93' : r_92.toInt ≠ 0 := jb_ne (rfl) ((by decide)) c_93
              refine lv_aload_n hx hb dX14_batch_50 rfl (lv_at hl 1 rfl) ?_
              refine j7_read hx hb hown hK (C := RX14) (T := TX14) (N := 74) rfl hly_16_33 hlk_357 (hh_91.at 0 rfl) dX14_batch_51 ?_
              refine lv_istore (lv' := [(5, .int qc_91), (4, .int r_92), (0, .ref r0), (1, .int a1), (2, .int v2_7), (3, .int v3_7)]) hx hb dX14_batch_54 hl (by decide) rfl (fun ls hl => ?_)
              refine lv_iload_n hx hb dX14_batch_56 rfl (lv_at hl 5 rfl) ?_
              refine lv_iload hx hb dX14_batch_57 (lv_at hl 1 rfl) ?_
              refine lv_if_ne (tgt := 66) hx hb dX14_batch_59 (by decide) (fun c_94 => ?_) (fun c_94 => ?_)
              · skip
                have c_94' : r_92.toInt ≠ 0 := jb_ne (rfl) ((by decide)) c_94
                refine lv_iload hx hb dX14_batch_66 (lv_at hl 1 rfl) ?_
                refine lv_iadd hx hb dX14_batch_68 ?_
                refine lv_topi (fun z_95 ez_95 => ?_)
                have hz_95 : z_95.toInt = v3_7.toInt + r_92.toInt := by rw [ez_95]; exact jb_iadd2 (rfl) (rfl) (by omega)
                refine lv_istore_n (lv' := [(3, .int z_95), (5, .int qc_91), (4, .int r_92), (0, .ref r0), (1, .int a1), (2, .int v2_7)]) hx hb dX14_batch_69 rfl hl (by decide) rfl (fun ls hl => ?_)
                refine lv_iload_n hx hb dX14_batch_70 rfl (lv_at hl 5 rfl) ?_
                refine lv_iconst (v := 2) hx hb dX14_batch_71 (by decide) ?_
                refine lv_iadd hx hb dX14_batch_72 ?_
                refine lv_topi (fun z_96 ez_96 => ?_)
                have hz_96 : z_96.toInt = v2_7.toInt + 2 := by rw [ez_96]; exact jb_iadd2 (rfl) ((by decide)) (by omega)
                refine lv_aload_n hx hb dX14_batch_73 rfl (lv_at hl 3 rfl) ?_
                obtain ⟨v_97, hv_97, hh_98⟩ := hh_91.pin (C := RX14) (T := TX14) (N := 74) hB16 rfl (by decide) hg_r0 (i := 43) (by decide) rfl
                clear hh_91
                obtain ⟨changed_99, rfl, hg_changed_99⟩ := hv_97
                refine j7_read hx hb hown hK (C := RX14) (T := TX14) (N := 74) rfl hly_16_43 hlk_78 (hh_98.at 0 rfl) dX14_batch_74 ?_
                refine j7_len hx hb hK hh_98 hB101 1 rfl (by decide) hg_changed_99 (by omega) dX14_batch_77 (fun z_100 hz_100 => ?_)
                refine lv_icmp_le (tgt := 84) hx hb dX14_batch_78 (by decide) (fun c_101 => ?_) (fun c_101 => ?_)
                · skip
                  have c_101' : z_96.toInt ≤ z_100.toInt := jb_le (rfl) (rfl) c_101
                  refine lv_iload hx hb dX14_batch_84 (lv_at hl 1 rfl) ?_
                  refine lv_ldcw hx hb hown hcs_333 dX14_batch_86 ?_
                  refine lv_icmp_le (tgt := 126) hx hb dX14_batch_89 (by decide) (fun c_102 => ?_) (fun c_102 => ?_)
                  · skip
                    have c_102' : qc_91.toInt ≤ 65535 := jb_le (rfl) ((by decide)) c_102
                    first | (have hr_92q := hr_92.resolve_left (by omega); clear hr_92) | (have hr_92q := hr_92.resolve_right (by omega); clear hr_92) | skip
                    refine lv_aload_n hx hb dX14_batch_126 rfl (lv_at hl 3 rfl) ?_
                    refine j7_read hx hb hown hK (C := RX14) (T := TX14) (N := 74) rfl hly_16_43 hlk_78 (hh_98.at 0 rfl) dX14_batch_127 ?_
                    refine lv_iload_n hx hb dX14_batch_130 rfl (lv_at hl 5 rfl) ?_
                    refine lv_iload hx hb dX14_batch_131 (lv_at hl 1 rfl) ?_
                    refine j7_iast hx hb hK hh_98 hB hB101 1 rfl (by decide) (by decide) rfl rfl rfl hg_changed_99 (x := v2_7.toInt) (rfl) (by omega) (trivial) dX14_batch_133 (fun H_103 locs_103 hh_103 => ?_)
                    clear hh_98
                    obtain ⟨z_104, ez_104⟩ : ∃ y : Int32, y = v2_7 + 1 := ⟨_, rfl⟩
                    refine lv_iinc (v := z_104) (lv' := [(2, .int z_104), (3, .int z_95), (5, .int qc_91), (4, .int r_92), (0, .ref r0), (1, .int a1)]) hx hb dX14_batch_134 hl (k := 5) rfl (by rw [ez_104]; rfl) (by decide) rfl (fun ls hl => ?_)
                    have hz_104 : z_104.toInt = v2_7.toInt + 1 := by rw [ez_104]; exact jb_iadd2 (rfl) (by decide) (by omega)
                    refine lv_goto (tgt := 23) hx hb dX14_batch_137 (by decide) ?_
                    exact L23 z_104 z_95 _ _ (hh_103.sub (L1 := [(r0, 16, 1, .int 0), (r0, 16, 58, .ref kr), (kr, 15, 17, .ref zf), (kr, 15, 22, .ref zg), (kr, 15, 25, .ref zh), (kr, 15, 27, .ref zp), (r0, 16, 41, .ref dd), (r0, 16, 42, .int dc), (r0, 16, 60, .ref co), (r0, 16, 61, .ref cs), (r0, 16, 46, .ref ol), (r0, 16, 47, .ref nw), (r0, 16, 71, .ref td), (kr, 15, 0, .ref zs), (kr, 15, 1, .ref zn), (kr, 15, 2, .ref za), (kr, 15, 3, .ref zb), (kr, 15, 4, .ref zc), (kr, 15, 14, .ref zy)]) [3, 4, 5, 6, 7, 8, 9, 10, 11, 12, 13, 14, 15, 16, 17, 18, 19, 20, 21] rfl (M1 := [(zf, 160, 16, ca 1, ff), (zg, 161, 46, ca 1, fg), (zh, 159, 46, ca 1, fh), (zp, 162, 368, ca 1, fp), (cs, 207, 2, ca 1, fs), (zs, 150, 120000, ca 1, C.s), (zn, 151, 120000, ca 1, C.n), (za, 152, 120000, ca 1, C.a), (zb, 153, 120000, ca 1, C.b), (zc, 154, 120000, ca 1, C.c), (zy, 165, 16, ca 1, C.y)]) [0, 1, 2, 3, 4, 5, 6, 7, 8, 9, 10] rfl (I1 := [(jFs, jDY dC dI ca G0 none sn), (jF9, jVl dC dI G0 9 ck), ([(201, 0)], jQc dC dI (ca 4) dd 3 fd), ([(208, 0)], jQc dC dI (ca 4) co 2 fo)]) [0, 1, 2, 3] rfl) (by first | omega | (refine ⟨?_, ?_, ?_, ?_⟩ <;> (first | omega | rfl | assumption | decide | exact Or.inl rfl | exact Or.inr rfl | (simp only; omega)))) (by omega) _ (lv_sub hl [4, 5, 0, 1] rfl)
                  · skip
                    have c_102' : qc_91.toInt > 65535 := jb_le_n (rfl) ((by decide)) c_102
                    first | (have hr_92q := hr_92.resolve_left (by omega); clear hr_92) | (have hr_92q := hr_92.resolve_right (by omega); clear hr_92) | skip
                    refine lv_aload_n hx hb dX14_batch_92 rfl (lv_at hl 3 rfl) ?_
                    refine j7_read hx hb hown hK (C := RX14) (T := TX14) (N := 74) rfl hly_16_43 hlk_78 (hh_98.at 0 rfl) dX14_batch_93 ?_
                    refine lv_iload_n hx hb dX14_batch_96 rfl (lv_at hl 5 rfl) ?_
                    refine lv_ldc hx hb hown hcs_179 dX14_batch_97 ?_
                    refine lv_iload hx hb dX14_batch_99 (lv_at hl 1 rfl) ?_
                    refine lv_ldc hx hb hown hcs_197 dX14_batch_101 ?_
                    refine lv_isub hx hb dX14_batch_103 ?_
                    refine lv_topi (fun z_105 ez_105 => ?_)
                    refine lv_bipush (v := 10) hx hb dX14_batch_104 (by decide) ?_
                    refine lv_ishr hx hb dX14_batch_106 ?_
                    refine lv_topi (fun z_106 ez_106 => ?_)
                    have hz_106 : z_106.toInt = z_105.toInt / 2 ^ 10 := by rw [ez_106]; exact jb_ishr 10 (rfl) (by decide)
                    refine lv_iadd hx hb dX14_batch_107 ?_
                    refine lv_topi (fun z_107 ez_107 => ?_)
                    refine j7_iast hx hb hK hh_98 hB hB101 1 rfl (by decide) (by decide) rfl rfl rfl hg_changed_99 (x := v2_7.toInt) (rfl) (by omega) (trivial) dX14_batch_108 (fun H_108 locs_108 hh_108 => ?_)
                    clear hh_98
                    obtain ⟨z_109, ez_109⟩ : ∃ y : Int32, y = v2_7 + 1 := ⟨_, rfl⟩
                    refine lv_iinc (v := z_109) (lv' := [(2, .int z_109), (3, .int z_95), (5, .int qc_91), (4, .int r_92), (0, .ref r0), (1, .int a1)]) hx hb dX14_batch_109 hl (k := 5) rfl (by rw [ez_109]; rfl) (by decide) rfl (fun ls hl => ?_)
                    have hz_109 : z_109.toInt = v2_7.toInt + 1 := by rw [ez_109]; exact jb_iadd2 (rfl) (by decide) (by omega)
                    refine lv_ldc hx hb hown hcs_185 dX14_batch_112 ?_
                    refine lv_iload hx hb dX14_batch_114 (lv_at hl 2 rfl) ?_
                    refine lv_ldc hx hb hown hcs_197 dX14_batch_116 ?_
                    refine lv_isub hx hb dX14_batch_118 ?_
                    refine lv_topi (fun z_110 ez_110 => ?_)
                    refine lv_sipush (v := 1023) hx hb dX14_batch_119 (by decide) ?_
                    refine lv_iand hx hb dX14_batch_122 ?_
                    refine lv_topi (fun z_111 ez_111 => ?_)
                    have hz_111 : 0 ≤ z_111.toInt ∧ z_111.toInt ≤ 1023 := by rw [ez_111]; exact jb_and z_110 (m := 1023) (k := 10) (by decide) (by decide)
                    refine lv_iadd hx hb dX14_batch_123 ?_
                    refine lv_topi (fun z_112 ez_112 => ?_)
                    refine lv_istore (lv' := [(5, .int z_112), (2, .int z_109), (3, .int z_95), (4, .int r_92), (0, .ref r0), (1, .int a1)]) hx hb dX14_batch_124 hl (by decide) rfl (fun ls hl => ?_)
                    refine lv_aload_n hx hb dX14_batch_126 rfl (lv_at hl 4 rfl) ?_
                    refine j7_read hx hb hown hK (C := RX14) (T := TX14) (N := 74) rfl hly_16_43 hlk_78 (hh_108.at 0 rfl) dX14_batch_127 ?_
                    refine lv_iload_n hx hb dX14_batch_130 rfl (lv_at hl 1 rfl) ?_
                    refine lv_iload hx hb dX14_batch_131 (lv_at hl 0 rfl) ?_
                    refine j7_iast hx hb hK hh_108 hB hB101 1 rfl (by decide) (by decide) rfl rfl rfl hg_changed_99 (x := z_109.toInt) (rfl) (by omega) (trivial) dX14_batch_133 (fun H_113 locs_113 hh_113 => ?_)
                    clear hh_108
                    obtain ⟨z_114, ez_114⟩ : ∃ y : Int32, y = z_109 + 1 := ⟨_, rfl⟩
                    refine lv_iinc (v := z_114) (lv' := [(2, .int z_114), (5, .int z_112), (3, .int z_95), (4, .int r_92), (0, .ref r0), (1, .int a1)]) hx hb dX14_batch_134 hl (k := 1) rfl (by rw [ez_114]; rfl) (by decide) rfl (fun ls hl => ?_)
                    have hz_114 : z_114.toInt = z_109.toInt + 1 := by rw [ez_114]; exact jb_iadd2 (rfl) (by decide) (by omega)
                    refine lv_goto (tgt := 23) hx hb dX14_batch_137 (by decide) ?_
                    exact L23 z_114 z_95 _ _ (hh_113.sub (L1 := [(r0, 16, 1, .int 0), (r0, 16, 58, .ref kr), (kr, 15, 17, .ref zf), (kr, 15, 22, .ref zg), (kr, 15, 25, .ref zh), (kr, 15, 27, .ref zp), (r0, 16, 41, .ref dd), (r0, 16, 42, .int dc), (r0, 16, 60, .ref co), (r0, 16, 61, .ref cs), (r0, 16, 46, .ref ol), (r0, 16, 47, .ref nw), (r0, 16, 71, .ref td), (kr, 15, 0, .ref zs), (kr, 15, 1, .ref zn), (kr, 15, 2, .ref za), (kr, 15, 3, .ref zb), (kr, 15, 4, .ref zc), (kr, 15, 14, .ref zy)]) [3, 4, 5, 6, 7, 8, 9, 10, 11, 12, 13, 14, 15, 16, 17, 18, 19, 20, 21] rfl (M1 := [(zf, 160, 16, ca 1, ff), (zg, 161, 46, ca 1, fg), (zh, 159, 46, ca 1, fh), (zp, 162, 368, ca 1, fp), (cs, 207, 2, ca 1, fs), (zs, 150, 120000, ca 1, C.s), (zn, 151, 120000, ca 1, C.n), (za, 152, 120000, ca 1, C.a), (zb, 153, 120000, ca 1, C.b), (zc, 154, 120000, ca 1, C.c), (zy, 165, 16, ca 1, C.y)]) [0, 1, 2, 3, 4, 5, 6, 7, 8, 9, 10] rfl (I1 := [(jFs, jDY dC dI ca G0 none sn), (jF9, jVl dC dI G0 9 ck), ([(201, 0)], jQc dC dI (ca 4) dd 3 fd), ([(208, 0)], jQc dC dI (ca 4) co 2 fo)]) [0, 1, 2, 3] rfl) (by first | omega | (refine ⟨?_, ?_, ?_, ?_⟩ <;> (first | omega | rfl | assumption | decide | exact Or.inl rfl | exact Or.inr rfl | (simp only; omega)))) (by omega) _ (lv_sub hl [4, 5, 0, 2] rfl)
                · skip
                  have c_101' : z_96.toInt > z_100.toInt := jb_le_n (rfl) (rfl) c_101
                  refine lv_goto (tgt := 140) hx hb dX14_batch_81 (by decide) ?_
                  exact C140 z_95 _ _ (hh_98.sub (L1 := [(r0, 16, 1, .int 0), (r0, 16, 58, .ref kr), (kr, 15, 17, .ref zf), (kr, 15, 22, .ref zg), (kr, 15, 25, .ref zh), (kr, 15, 27, .ref zp), (r0, 16, 41, .ref dd), (r0, 16, 42, .int dc), (r0, 16, 60, .ref co), (r0, 16, 61, .ref cs), (r0, 16, 46, .ref ol), (r0, 16, 47, .ref nw), (r0, 16, 71, .ref td), (kr, 15, 0, .ref zs), (kr, 15, 1, .ref zn), (kr, 15, 2, .ref za), (kr, 15, 3, .ref zb), (kr, 15, 4, .ref zc), (kr, 15, 14, .ref zy)]) [3, 4, 5, 6, 7, 8, 9, 10, 11, 12, 13, 14, 15, 16, 17, 18, 19, 20, 21] rfl (M1 := [(zf, 160, 16, ca 1, ff), (zg, 161, 46, ca 1, fg), (zh, 159, 46, ca 1, fh), (zp, 162, 368, ca 1, fp), (cs, 207, 2, ca 1, fs), (zs, 150, 120000, ca 1, C.s), (zn, 151, 120000, ca 1, C.n), (za, 152, 120000, ca 1, C.a), (zb, 153, 120000, ca 1, C.b), (zc, 154, 120000, ca 1, C.c), (zy, 165, 16, ca 1, C.y)]) [0, 1, 2, 3, 4, 5, 6, 7, 8, 9, 10] rfl (I1 := [(jFs, jDY dC dI ca G0 none sn), (jF9, jVl dC dI G0 9 ck), ([(201, 0)], jQc dC dI (ca 4) dd 3 fd), ([(208, 0)], jQc dC dI (ca 4) co 2 fo)]) [0, 1, 2, 3] rfl) (by first | omega | (refine ⟨?_, ?_⟩ <;> (first | omega | rfl | assumption | decide | exact Or.inl rfl | exact Or.inr rfl | (simp only; omega)))) _ (lv_sub hl [3, 4, 5, 0] rfl)
              · skip
                have c_94' : r_92.toInt = 0 := jb_ne_n (rfl) ((by decide)) c_94
                exact (by omega : False).elim
            · skip
              have c_93' : r_92.toInt = 0 := jb_ne_n (rfl) ((by decide)) c_93
              first | (have hr_92q := hr_92.resolve_left (by omega); clear hr_92) | (have hr_92q := hr_92.resolve_right (by omega); clear hr_92) | skip
              refine lv_ldc hx hb hown hcs_201 dX14_batch_45 ?_
              refine lv_goto (tgt := 54) hx hb dX14_batch_47 (by decide) ?_
              refine lv_istore (lv' := [(5, .int 65533), (4, .int r_92), (0, .ref r0), (1, .int a1), (2, .int v2_7), (3, .int v3_7)]) hx hb dX14_batch_54 hl (by decide) rfl (fun ls hl => ?_)
              refine lv_iload_n hx hb dX14_batch_56 rfl (lv_at hl 5 rfl) ?_
              refine lv_iload hx hb dX14_batch_57 (lv_at hl 1 rfl) ?_
              refine lv_if_ne (tgt := 66) hx hb dX14_batch_59 (by decide) (fun c_115 => ?_) (fun c_115 => ?_)
              · skip
                have c_115' : r_92.toInt ≠ 0 := jb_ne (rfl) ((by decide)) c_115
                exact (by omega : False).elim
              · skip
                have c_115' : r_92.toInt = 0 := jb_ne_n (rfl) ((by decide)) c_115
                first | (have hr_92q := hr_92.resolve_left (by omega); clear hr_92) | (have hr_92q := hr_92.resolve_right (by omega); clear hr_92) | skip
                refine lv_iconst (v := 1) hx hb dX14_batch_62 (by decide) ?_
                refine lv_goto (tgt := 68) hx hb dX14_batch_63 (by decide) ?_
                refine lv_iadd hx hb dX14_batch_68 ?_
                refine lv_topi (fun z_116 ez_116 => ?_)
                have hz_116 : z_116.toInt = v3_7.toInt + 1 := by rw [ez_116]; exact jb_iadd2 (rfl) ((by decide)) (by omega)
                refine lv_istore_n (lv' := [(3, .int z_116), (5, .int 65533), (4, .int r_92), (0, .ref r0), (1, .int a1), (2, .int v2_7)]) hx hb dX14_batch_69 rfl hl (by decide) rfl (fun ls hl => ?_)
                refine lv_iload_n hx hb dX14_batch_70 rfl (lv_at hl 5 rfl) ?_
                refine lv_iconst (v := 2) hx hb dX14_batch_71 (by decide) ?_
                refine lv_iadd hx hb dX14_batch_72 ?_
                refine lv_topi (fun z_117 ez_117 => ?_)
                have hz_117 : z_117.toInt = v2_7.toInt + 2 := by rw [ez_117]; exact jb_iadd2 (rfl) ((by decide)) (by omega)
                refine lv_aload_n hx hb dX14_batch_73 rfl (lv_at hl 3 rfl) ?_
                obtain ⟨v_118, hv_118, hh_119⟩ := hh_91.pin (C := RX14) (T := TX14) (N := 74) hB16 rfl (by decide) hg_r0 (i := 43) (by decide) rfl
                clear hh_91
                obtain ⟨changed_120, rfl, hg_changed_120⟩ := hv_118
                refine j7_read hx hb hown hK (C := RX14) (T := TX14) (N := 74) rfl hly_16_43 hlk_78 (hh_119.at 0 rfl) dX14_batch_74 ?_
                refine j7_len hx hb hK hh_119 hB101 1 rfl (by decide) hg_changed_120 (by omega) dX14_batch_77 (fun z_121 hz_121 => ?_)
                refine lv_icmp_le (tgt := 84) hx hb dX14_batch_78 (by decide) (fun c_122 => ?_) (fun c_122 => ?_)
                · skip
                  have c_122' : z_117.toInt ≤ z_121.toInt := jb_le (rfl) (rfl) c_122
                  refine lv_iload hx hb dX14_batch_84 (lv_at hl 1 rfl) ?_
                  refine lv_ldcw hx hb hown hcs_333 dX14_batch_86 ?_
                  refine lv_icmp_le (tgt := 126) hx hb dX14_batch_89 (by decide) (fun c_123 => ?_) (fun c_123 => ?_)
                  · skip
                    refine lv_aload_n hx hb dX14_batch_126 rfl (lv_at hl 3 rfl) ?_
                    refine j7_read hx hb hown hK (C := RX14) (T := TX14) (N := 74) rfl hly_16_43 hlk_78 (hh_119.at 0 rfl) dX14_batch_127 ?_
                    refine lv_iload_n hx hb dX14_batch_130 rfl (lv_at hl 5 rfl) ?_
                    refine lv_iload hx hb dX14_batch_131 (lv_at hl 1 rfl) ?_
                    refine j7_iast hx hb hK hh_119 hB hB101 1 rfl (by decide) (by decide) rfl rfl rfl hg_changed_120 (x := v2_7.toInt) (rfl) (by omega) (trivial) dX14_batch_133 (fun H_124 locs_124 hh_124 => ?_)
                    clear hh_119
                    obtain ⟨z_125, ez_125⟩ : ∃ y : Int32, y = v2_7 + 1 := ⟨_, rfl⟩
                    refine lv_iinc (v := z_125) (lv' := [(2, .int z_125), (3, .int z_116), (5, .int 65533), (4, .int r_92), (0, .ref r0), (1, .int a1)]) hx hb dX14_batch_134 hl (k := 5) rfl (by rw [ez_125]; rfl) (by decide) rfl (fun ls hl => ?_)
                    have hz_125 : z_125.toInt = v2_7.toInt + 1 := by rw [ez_125]; exact jb_iadd2 (rfl) (by decide) (by omega)
                    refine lv_goto (tgt := 23) hx hb dX14_batch_137 (by decide) ?_
                    exact L23 z_125 z_116 _ _ (hh_124.sub (L1 := [(r0, 16, 1, .int 0), (r0, 16, 58, .ref kr), (kr, 15, 17, .ref zf), (kr, 15, 22, .ref zg), (kr, 15, 25, .ref zh), (kr, 15, 27, .ref zp), (r0, 16, 41, .ref dd), (r0, 16, 42, .int dc), (r0, 16, 60, .ref co), (r0, 16, 61, .ref cs), (r0, 16, 46, .ref ol), (r0, 16, 47, .ref nw), (r0, 16, 71, .ref td), (kr, 15, 0, .ref zs), (kr, 15, 1, .ref zn), (kr, 15, 2, .ref za), (kr, 15, 3, .ref zb), (kr, 15, 4, .ref zc), (kr, 15, 14, .ref zy)]) [3, 4, 5, 6, 7, 8, 9, 10, 11, 12, 13, 14, 15, 16, 17, 18, 19, 20, 21] rfl (M1 := [(zf, 160, 16, ca 1, ff), (zg, 161, 46, ca 1, fg), (zh, 159, 46, ca 1, fh), (zp, 162, 368, ca 1, fp), (cs, 207, 2, ca 1, fs), (zs, 150, 120000, ca 1, C.s), (zn, 151, 120000, ca 1, C.n), (za, 152, 120000, ca 1, C.a), (zb, 153, 120000, ca 1, C.b), (zc, 154, 120000, ca 1, C.c), (zy, 165, 16, ca 1, C.y)]) [0, 1, 2, 3, 4, 5, 6, 7, 8, 9, 10] rfl (I1 := [(jFs, jDY dC dI ca G0 none sn), (jF9, jVl dC dI G0 9 ck), ([(201, 0)], jQc dC dI (ca 4) dd 3 fd), ([(208, 0)], jQc dC dI (ca 4) co 2 fo)]) [0, 1, 2, 3] rfl) (by first | omega | (refine ⟨?_, ?_, ?_, ?_⟩ <;> (first | omega | rfl | assumption | decide | exact Or.inl rfl | exact Or.inr rfl | (simp only; omega)))) (by omega) _ (lv_sub hl [4, 5, 0, 1] rfl)
                  · skip
                    exact absurd c_123 (by decide)
                · skip
                  have c_122' : z_117.toInt > z_121.toInt := jb_le_n (rfl) (rfl) c_122
                  refine lv_goto (tgt := 140) hx hb dX14_batch_81 (by decide) ?_
                  exact C140 z_116 _ _ (hh_119.sub (L1 := [(r0, 16, 1, .int 0), (r0, 16, 58, .ref kr), (kr, 15, 17, .ref zf), (kr, 15, 22, .ref zg), (kr, 15, 25, .ref zh), (kr, 15, 27, .ref zp), (r0, 16, 41, .ref dd), (r0, 16, 42, .int dc), (r0, 16, 60, .ref co), (r0, 16, 61, .ref cs), (r0, 16, 46, .ref ol), (r0, 16, 47, .ref nw), (r0, 16, 71, .ref td), (kr, 15, 0, .ref zs), (kr, 15, 1, .ref zn), (kr, 15, 2, .ref za), (kr, 15, 3, .ref zb), (kr, 15, 4, .ref zc), (kr, 15, 14, .ref zy)]) [3, 4, 5, 6, 7, 8, 9, 10, 11, 12, 13, 14, 15, 16, 17, 18, 19, 20, 21] rfl (M1 := [(zf, 160, 16, ca 1, ff), (zg, 161, 46, ca 1, fg), (zh, 159, 46, ca 1, fh), (zp, 162, 368, ca 1, fp), (cs, 207, 2, ca 1, fs), (zs, 150, 120000, ca 1, C.s), (zn, 151, 120000, ca 1, C.n), (za, 152, 120000, ca 1, C.a), (zb, 153, 120000, ca 1, C.b), (zc, 154, 120000, ca 1, C.c), (zy, 165, 16, ca 1, C.y)]) [0, 1, 2, 3, 4, 5, 6, 7, 8, 9, 10] rfl (I1 := [(jFs, jDY dC dI ca G0 none sn), (jF9, jVl dC dI G0 9 ck), ([(201, 0)], jQc dC dI (ca 4) dd 3 fd), ([(208, 0)], jQc dC dI (ca 4) co 2 fo)]) [0, 1, 2, 3] rfl) (by first | omega | (refine ⟨?_, ?_⟩ <;> (first | omega | rfl | assumption | decide | exact Or.inl rfl | exact Or.inr rfl | (simp only; omega)))) _ (lv_sub hl [3, 4, 5, 0] rfl)
      exact L23 (a1.toInt - (0 : Int32).toInt : Int).toNat.succ 0 0 _ _ hh_6 (by first | omega | (refine ⟨?_, ?_, ?_, ?_⟩ <;> (first | omega | rfl | assumption | decide | exact Or.inl rfl | exact Or.inr rfl | (simp only; omega)))) (by omega) _ (lv_sub hl [2, 3, 1, 0] rfl)
    · skip
      have c_5' : a1.toInt > taped_4.toInt := jb_le_n (rfl) (rfl) c_5
      refine lv_iconst (v := (-1)) hx hb dX14_batch_12 (by decide) ?_
      rw [hQ]
      exact W.iret (v := (-1)) hx hb hr (fun t ht hW => ⟨⟨(-1), (ff, fg, fh, fp, C), rfl, trivial, ⟨⟨hh_3.rt (M1 := []) [] rfl ht, by rw [ht]; exact hh_3.2.2.2.2.2.2.2.1.sub [0, 1, 2, 3, 5, 6, 7, 8, 9, 10] rfl⟩, by rw [ht]; exact ⟨sn, ck, fs, fd, fo, dc, hh_3.2.2.1.sub (L1 := [(r0, 16, 41, .ref dd), (r0, 16, 42, .int dc), (r0, 16, 60, .ref co), (r0, 16, 61, .ref cs), (r0, 16, 46, .ref ol), (r0, 16, 47, .ref nw), (r0, 16, 71, .ref td)]) [6, 7, 8, 9, 10, 11, 12] rfl, hh_3.2.2.2.2.2.2.2.1.sub (L1 := [(cs, 207, 2, ca 1, fs)]) [4] rfl, hh_3.2.2.2.2.2.2.2.2.sub (L1 := [(jFs, jDY dC dI ca G0 none sn), (jF9, jVl dC dI G0 9 ck), ([(201, 0)], jQc dC dI (ca 4) dd 3 fd), ([(208, 0)], jQc dC dI (ca 4) co 2 fo)]) [0, 1, 2, 3] rfl, hp0⟩⟩⟩, by rw [ht]; try exact hh_3.1.1, fun q h9 hq => by rw [ht]; try exact hh_3.1.2.1 q h9 hq⟩) hh_3.1.2.2 dX14_batch_13
