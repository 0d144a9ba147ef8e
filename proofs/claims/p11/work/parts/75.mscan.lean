theorem dX13_scan_0 : decode cX13_scan 0 = .ok (.aload_n 0, 1) := by decide +kernel
theorem dX13_scan_1 : decode cX13_scan 1 = .ok (.iconst 0, 1) := by decide +kernel
theorem dX13_scan_2 : decode cX13_scan 2 = .ok (.putfield 140, 3) := by decide +kernel
theorem dX13_scan_5 : decode cX13_scan 5 = .ok (.aload_n 0, 1) := by decide +kernel
theorem dX13_scan_6 : decode cX13_scan 6 = .ok (.iconst 0, 1) := by decide +kernel
theorem dX13_scan_7 : decode cX13_scan 7 = .ok (.putfield 143, 3) := by decide +kernel
theorem dX13_scan_10 : decode cX13_scan 10 = .ok (.iload_n 2, 1) := by decide +kernel
theorem dX13_scan_11 : decode cX13_scan 11 = .ok (.istore 4, 2) := by decide +kernel
theorem dX13_scan_13 : decode cX13_scan 13 = .ok (.iload 4, 2) := by decide +kernel
theorem dX13_scan_15 : decode cX13_scan 15 = .ok (.iload_n 3, 1) := by decide +kernel
theorem dX13_scan_16 : decode cX13_scan 16 = .ok (.if_icmp .ge 312, 3) := by decide +kernel
theorem dX13_scan_19 : decode cX13_scan 19 = .ok (.aload_n 1, 1) := by decide +kernel
theorem dX13_scan_20 : decode cX13_scan 20 = .ok (.iload 4, 2) := by decide +kernel
theorem dX13_scan_22 : decode cX13_scan 22 = .ok (.iaload, 1) := by decide +kernel
theorem dX13_scan_23 : decode cX13_scan 23 = .ok (.istore 5, 2) := by decide +kernel
theorem dX13_scan_25 : decode cX13_scan 25 = .ok (.iload 5, 2) := by decide +kernel
theorem dX13_scan_27 : decode cX13_scan 27 = .ok (.invokestatic 146, 3) := by decide +kernel
theorem dX13_scan_30 : decode cX13_scan 30 = .ok (.ifCond .eq 9, 3) := by decide +kernel
theorem dX13_scan_33 : decode cX13_scan 33 = .ok (.iinc 4 1, 3) := by decide +kernel
theorem dX13_scan_36 : decode cX13_scan 36 = .ok (.goto 289, 3) := by decide +kernel
theorem dX13_scan_39 : decode cX13_scan 39 = .ok (.aload_n 1, 1) := by decide +kernel
theorem dX13_scan_40 : decode cX13_scan 40 = .ok (.iload 4, 2) := by decide +kernel
theorem dX13_scan_42 : decode cX13_scan 42 = .ok (.iload_n 3, 1) := by decide +kernel
theorem dX13_scan_43 : decode cX13_scan 43 = .ok (.invokestatic 149, 3) := by decide +kernel
theorem dX13_scan_46 : decode cX13_scan 46 = .ok (.ifCond .eq 28, 3) := by decide +kernel
theorem dX13_scan_49 : decode cX13_scan 49 = .ok (.aload_n 1, 1) := by decide +kernel
theorem dX13_scan_50 : decode cX13_scan 50 = .ok (.iload 4, 2) := by decide +kernel
theorem dX13_scan_52 : decode cX13_scan 52 = .ok (.iload_n 3, 1) := by decide +kernel
theorem dX13_scan_53 : decode cX13_scan 53 = .ok (.invokestatic 153, 3) := by decide +kernel
theorem dX13_scan_56 : decode cX13_scan 56 = .ok (.istore 6, 2) := by decide +kernel
theorem dX13_scan_58 : decode cX13_scan 58 = .ok (.iload 6, 2) := by decide +kernel
theorem dX13_scan_60 : decode cX13_scan 60 = .ok (.ifCond .ge 7, 3) := by decide +kernel
theorem dX13_scan_63 : decode cX13_scan 63 = .ok (.iload_n 3, 1) := by decide +kernel
theorem dX13_scan_64 : decode cX13_scan 64 = .ok (.goto 5, 3) := by decide +kernel
theorem dX13_scan_67 : decode cX13_scan 67 = .ok (.iload 6, 2) := by decide +kernel
theorem dX13_scan_69 : decode cX13_scan 69 = .ok (.istore 4, 2) := by decide +kernel
theorem dX13_scan_71 : decode cX13_scan 71 = .ok (.goto 254, 3) := by decide +kernel
theorem dX13_scan_74 : decode cX13_scan 74 = .ok (.iload 5, 2) := by decide +kernel
theorem dX13_scan_76 : decode cX13_scan 76 = .ok (.invokestatic 136, 3) := by decide +kernel
theorem dX13_scan_79 : decode cX13_scan 79 = .ok (.ifCond .eq 73, 3) := by decide +kernel
theorem dX13_scan_82 : decode cX13_scan 82 = .ok (.iload 4, 2) := by decide +kernel
theorem dX13_scan_84 : decode cX13_scan 84 = .ok (.istore 6, 2) := by decide +kernel
theorem dX13_scan_86 : decode cX13_scan 86 = .ok (.iload 4, 2) := by decide +kernel
theorem dX13_scan_88 : decode cX13_scan 88 = .ok (.iload_n 3, 1) := by decide +kernel
theorem dX13_scan_89 : decode cX13_scan 89 = .ok (.if_icmp .ge 19, 3) := by decide +kernel
theorem dX13_scan_92 : decode cX13_scan 92 = .ok (.aload_n 1, 1) := by decide +kernel
theorem dX13_scan_93 : decode cX13_scan 93 = .ok (.iload 4, 2) := by decide +kernel
theorem dX13_scan_95 : decode cX13_scan 95 = .ok (.iaload, 1) := by decide +kernel
theorem dX13_scan_96 : decode cX13_scan 96 = .ok (.invokestatic 157, 3) := by decide +kernel
theorem dX13_scan_99 : decode cX13_scan 99 = .ok (.ifCond .eq 9, 3) := by decide +kernel
theorem dX13_scan_102 : decode cX13_scan 102 = .ok (.iinc 4 1, 3) := by decide +kernel
theorem dX13_scan_105 : decode cX13_scan 105 = .ok (.goto (-19), 3) := by decide +kernel
theorem dX13_scan_108 : decode cX13_scan 108 = .ok (.iload 4, 2) := by decide +kernel
theorem dX13_scan_110 : decode cX13_scan 110 = .ok (.iload 6, 2) := by decide +kernel
theorem dX13_scan_112 : decode cX13_scan 112 = .ok (.isub, 1) := by decide +kernel
theorem dX13_scan_113 : decode cX13_scan 113 = .ok (.bipush 10, 2) := by decide +kernel
theorem dX13_scan_115 : decode cX13_scan 115 = .ok (.if_icmp .le 20, 3) := by decide +kernel
theorem dX13_scan_118 : decode cX13_scan 118 = .ok (.aload_n 0, 1) := by decide +kernel
theorem dX13_scan_119 : decode cX13_scan 119 = .ok (.dup, 1) := by decide +kernel
theorem dX13_scan_120 : decode cX13_scan 120 = .ok (.getfield 143, 3) := by decide +kernel
theorem dX13_scan_123 : decode cX13_scan 123 = .ok (.iload 4, 2) := by decide +kernel
theorem dX13_scan_125 : decode cX13_scan 125 = .ok (.iload 6, 2) := by decide +kernel
theorem dX13_scan_127 : decode cX13_scan 127 = .ok (.isub, 1) := by decide +kernel
theorem dX13_scan_128 : decode cX13_scan 128 = .ok (.iadd, 1) := by decide +kernel
theorem dX13_scan_129 : decode cX13_scan 129 = .ok (.putfield 143, 3) := by decide +kernel
theorem dX13_scan_132 : decode cX13_scan 132 = .ok (.goto 17, 3) := by decide +kernel
theorem dX13_scan_135 : decode cX13_scan 135 = .ok (.aload_n 0, 1) := by decide +kernel
theorem dX13_scan_136 : decode cX13_scan 136 = .ok (.iconst 1, 1) := by decide +kernel
theorem dX13_scan_137 : decode cX13_scan 137 = .ok (.aload_n 0, 1) := by decide +kernel
theorem dX13_scan_138 : decode cX13_scan 138 = .ok (.aload_n 1, 1) := by decide +kernel
theorem dX13_scan_139 : decode cX13_scan 139 = .ok (.iload 6, 2) := by decide +kernel
theorem dX13_scan_141 : decode cX13_scan 141 = .ok (.iload 4, 2) := by decide +kernel
theorem dX13_scan_143 : decode cX13_scan 143 = .ok (.invokevirtual 160, 3) := by decide +kernel
theorem dX13_scan_146 : decode cX13_scan 146 = .ok (.invokevirtual 163, 3) := by decide +kernel
theorem dX13_scan_149 : decode cX13_scan 149 = .ok (.goto 176, 3) := by decide +kernel
theorem dX13_scan_152 : decode cX13_scan 152 = .ok (.iload 5, 2) := by decide +kernel
theorem dX13_scan_154 : decode cX13_scan 154 = .ok (.bipush 48, 2) := by decide +kernel
theorem dX13_scan_156 : decode cX13_scan 156 = .ok (.bipush 57, 2) := by decide +kernel
theorem dX13_scan_158 : decode cX13_scan 158 = .ok (.invokestatic 132, 3) := by decide +kernel
theorem dX13_scan_161 : decode cX13_scan 161 = .ok (.ifCond .eq 19, 3) := by decide +kernel
theorem dX13_scan_164 : decode cX13_scan 164 = .ok (.aload_n 0, 1) := by decide +kernel
theorem dX13_scan_165 : decode cX13_scan 165 = .ok (.iconst 2, 1) := by decide +kernel
theorem dX13_scan_166 : decode cX13_scan 166 = .ok (.iload 5, 2) := by decide +kernel
theorem dX13_scan_168 : decode cX13_scan 168 = .ok (.bipush 48, 2) := by decide +kernel
theorem dX13_scan_170 : decode cX13_scan 170 = .ok (.isub, 1) := by decide +kernel
theorem dX13_scan_171 : decode cX13_scan 171 = .ok (.invokevirtual 163, 3) := by decide +kernel
theorem dX13_scan_174 : decode cX13_scan 174 = .ok (.iinc 4 1, 3) := by decide +kernel
theorem dX13_scan_177 : decode cX13_scan 177 = .ok (.goto 148, 3) := by decide +kernel
theorem dX13_scan_180 : decode cX13_scan 180 = .ok (.iload 5, 2) := by decide +kernel
theorem dX13_scan_182 : decode cX13_scan 182 = .ok (.bipush 45, 2) := by decide +kernel
theorem dX13_scan_184 : decode cX13_scan 184 = .ok (.if_icmp .ne 35, 3) := by decide +kernel
theorem dX13_scan_187 : decode cX13_scan 187 = .ok (.iload 4, 2) := by decide +kernel
theorem dX13_scan_189 : decode cX13_scan 189 = .ok (.iconst 1, 1) := by decide +kernel
theorem dX13_scan_190 : decode cX13_scan 190 = .ok (.iadd, 1) := by decide +kernel
theorem dX13_scan_191 : decode cX13_scan 191 = .ok (.iload_n 3, 1) := by decide +kernel
theorem dX13_scan_192 : decode cX13_scan 192 = .ok (.if_icmp .ge 27, 3) := by decide +kernel
theorem dX13_scan_195 : decode cX13_scan 195 = .ok (.aload_n 1, 1) := by decide +kernel
theorem dX13_scan_196 : decode cX13_scan 196 = .ok (.iload 4, 2) := by decide +kernel
theorem dX13_scan_198 : decode cX13_scan 198 = .ok (.iconst 1, 1) := by decide +kernel
theorem dX13_scan_199 : decode cX13_scan 199 = .ok (.iadd, 1) := by decide +kernel
theorem dX13_scan_200 : decode cX13_scan 200 = .ok (.iaload, 1) := by decide +kernel
theorem dX13_scan_201 : decode cX13_scan 201 = .ok (.bipush 62, 2) := by decide +kernel
theorem dX13_scan_203 : decode cX13_scan 203 = .ok (.if_icmp .ne 16, 3) := by decide +kernel
theorem dX13_scan_206 : decode cX13_scan 206 = .ok (.aload_n 0, 1) := by decide +kernel
theorem dX13_scan_207 : decode cX13_scan 207 = .ok (.iconst 3, 1) := by decide +kernel
theorem dX13_scan_208 : decode cX13_scan 208 = .ok (.bipush 62, 2) := by decide +kernel
theorem dX13_scan_210 : decode cX13_scan 210 = .ok (.invokevirtual 163, 3) := by decide +kernel
theorem dX13_scan_213 : decode cX13_scan 213 = .ok (.iinc 4 2, 3) := by decide +kernel
theorem dX13_scan_216 : decode cX13_scan 216 = .ok (.goto 109, 3) := by decide +kernel
theorem dX13_scan_219 : decode cX13_scan 219 = .ok (.iload 5, 2) := by decide +kernel
theorem dX13_scan_221 : decode cX13_scan 221 = .ok (.bipush 42, 2) := by decide +kernel
theorem dX13_scan_223 : decode cX13_scan 223 = .ok (.if_icmp .eq 67, 3) := by decide +kernel
theorem dX13_scan_226 : decode cX13_scan 226 = .ok (.iload 5, 2) := by decide +kernel
theorem dX13_scan_228 : decode cX13_scan 228 = .ok (.bipush 43, 2) := by decide +kernel
theorem dX13_scan_230 : decode cX13_scan 230 = .ok (.if_icmp .eq 60, 3) := by decide +kernel
theorem dX13_scan_233 : decode cX13_scan 233 = .ok (.iload 5, 2) := by decide +kernel
theorem dX13_scan_235 : decode cX13_scan 235 = .ok (.bipush 126, 2) := by decide +kernel
theorem dX13_scan_237 : decode cX13_scan 237 = .ok (.if_icmp .eq 53, 3) := by decide +kernel
theorem dX13_scan_240 : decode cX13_scan 240 = .ok (.iload 5, 2) := by decide +kernel
theorem dX13_scan_242 : decode cX13_scan 242 = .ok (.bipush 61, 2) := by decide +kernel
theorem dX13_scan_244 : decode cX13_scan 244 = .ok (.if_icmp .eq 46, 3) := by decide +kernel
theorem dX13_scan_247 : decode cX13_scan 247 = .ok (.iload 5, 2) := by decide +kernel
theorem dX13_scan_249 : decode cX13_scan 249 = .ok (.bipush 58, 2) := by decide +kernel
theorem dX13_scan_251 : decode cX13_scan 251 = .ok (.if_icmp .eq 39, 3) := by decide +kernel
theorem dX13_scan_254 : decode cX13_scan 254 = .ok (.iload 5, 2) := by decide +kernel
theorem dX13_scan_256 : decode cX13_scan 256 = .ok (.bipush 44, 2) := by decide +kernel
theorem dX13_scan_258 : decode cX13_scan 258 = .ok (.if_icmp .eq 32, 3) := by decide +kernel
theorem dX13_scan_261 : decode cX13_scan 261 = .ok (.iload 5, 2) := by decide +kernel
theorem dX13_scan_263 : decode cX13_scan 263 = .ok (.bipush 40, 2) := by decide +kernel
theorem dX13_scan_265 : decode cX13_scan 265 = .ok (.if_icmp .eq 25, 3) := by decide +kernel
theorem dX13_scan_268 : decode cX13_scan 268 = .ok (.iload 5, 2) := by decide +kernel
theorem dX13_scan_270 : decode cX13_scan 270 = .ok (.bipush 41, 2) := by decide +kernel
theorem dX13_scan_272 : decode cX13_scan 272 = .ok (.if_icmp .eq 18, 3) := by decide +kernel
theorem dX13_scan_275 : decode cX13_scan 275 = .ok (.iload 5, 2) := by decide +kernel
theorem dX13_scan_277 : decode cX13_scan 277 = .ok (.bipush 46, 2) := by decide +kernel
theorem dX13_scan_279 : decode cX13_scan 279 = .ok (.if_icmp .ne 15, 3) := by decide +kernel
theorem dX13_scan_282 : decode cX13_scan 282 = .ok (.iload 4, 2) := by decide +kernel
theorem dX13_scan_284 : decode cX13_scan 284 = .ok (.iconst 1, 1) := by decide +kernel
theorem dX13_scan_285 : decode cX13_scan 285 = .ok (.iadd, 1) := by decide +kernel
theorem dX13_scan_286 : decode cX13_scan 286 = .ok (.iload_n 3, 1) := by decide +kernel
theorem dX13_scan_287 : decode cX13_scan 287 = .ok (.if_icmp .ne 7, 3) := by decide +kernel
theorem dX13_scan_290 : decode cX13_scan 290 = .ok (.iconst 1, 1) := by decide +kernel
theorem dX13_scan_291 : decode cX13_scan 291 = .ok (.goto 4, 3) := by decide +kernel
theorem dX13_scan_294 : decode cX13_scan 294 = .ok (.iconst 0, 1) := by decide +kernel
theorem dX13_scan_295 : decode cX13_scan 295 = .ok (.istore 6, 2) := by decide +kernel
theorem dX13_scan_297 : decode cX13_scan 297 = .ok (.iload 6, 2) := by decide +kernel
theorem dX13_scan_299 : decode cX13_scan 299 = .ok (.ifCond .eq 13, 3) := by decide +kernel
theorem dX13_scan_302 : decode cX13_scan 302 = .ok (.aload_n 0, 1) := by decide +kernel
theorem dX13_scan_303 : decode cX13_scan 303 = .ok (.iconst 3, 1) := by decide +kernel
theorem dX13_scan_304 : decode cX13_scan 304 = .ok (.iload 5, 2) := by decide +kernel
theorem dX13_scan_306 : decode cX13_scan 306 = .ok (.invokevirtual 163, 3) := by decide +kernel
theorem dX13_scan_309 : decode cX13_scan 309 = .ok (.goto 13, 3) := by decide +kernel
theorem dX13_scan_312 : decode cX13_scan 312 = .ok (.aload_n 0, 1) := by decide +kernel
theorem dX13_scan_313 : decode cX13_scan 313 = .ok (.dup, 1) := by decide +kernel
theorem dX13_scan_314 : decode cX13_scan 314 = .ok (.getfield 143, 3) := by decide +kernel
theorem dX13_scan_317 : decode cX13_scan 317 = .ok (.iconst 1, 1) := by decide +kernel
theorem dX13_scan_318 : decode cX13_scan 318 = .ok (.iadd, 1) := by decide +kernel
theorem dX13_scan_319 : decode cX13_scan 319 = .ok (.putfield 143, 3) := by decide +kernel
theorem dX13_scan_322 : decode cX13_scan 322 = .ok (.iinc 4 1, 3) := by decide +kernel
theorem dX13_scan_325 : decode cX13_scan 325 = .ok (.goto (-312), 3) := by decide +kernel
theorem dX13_scan_328 : decode cX13_scan 328 = .ok (.return_, 1) := by decide +kernel
theorem dX13_cost_0 : decode cX13_cost 0 = .ok (.iload 4, 2) := by decide +kernel
theorem dX13_cost_2 : decode cX13_cost 2 = .ok (.ifCond .le 5, 3) := by decide +kernel
theorem dX13_cost_5 : decode cX13_cost 5 = .ok (.iconst 4, 1) := by decide +kernel
theorem dX13_cost_6 : decode cX13_cost 6 = .ok (.ireturn, 1) := by decide +kernel
theorem dX13_cost_7 : decode cX13_cost 7 = .ok (.aload_n 0, 1) := by decide +kernel
theorem dX13_cost_8 : decode cX13_cost 8 = .ok (.getfield 103, 3) := by decide +kernel
theorem dX13_cost_11 : decode cX13_cost 11 = .ok (.istore 5, 2) := by decide +kernel
theorem dX13_cost_13 : decode cX13_cost 13 = .ok (.aload_n 0, 1) := by decide +kernel
theorem dX13_cost_14 : decode cX13_cost 14 = .ok (.getfield 106, 3) := by decide +kernel
theorem dX13_cost_17 : decode cX13_cost 17 = .ok (.istore 6, 2) := by decide +kernel
theorem dX13_cost_19 : decode cX13_cost 19 = .ok (.aload_n 0, 1) := by decide +kernel
theorem dX13_cost_20 : decode cX13_cost 20 = .ok (.aload_n 1, 1) := by decide +kernel
theorem dX13_cost_21 : decode cX13_cost 21 = .ok (.iload_n 2, 1) := by decide +kernel
theorem dX13_cost_22 : decode cX13_cost 22 = .ok (.iload_n 3, 1) := by decide +kernel
theorem dX13_cost_23 : decode cX13_cost 23 = .ok (.invokevirtual 167, 3) := by decide +kernel
theorem dX13_cost_26 : decode cX13_cost 26 = .ok (.aload_n 0, 1) := by decide +kernel
theorem dX13_cost_27 : decode cX13_cost 27 = .ok (.iload 5, 2) := by decide +kernel
theorem dX13_cost_29 : decode cX13_cost 29 = .ok (.putfield 103, 3) := by decide +kernel
theorem dX13_cost_32 : decode cX13_cost 32 = .ok (.aload_n 0, 1) := by decide +kernel
theorem dX13_cost_33 : decode cX13_cost 33 = .ok (.iload 6, 2) := by decide +kernel
theorem dX13_cost_35 : decode cX13_cost 35 = .ok (.putfield 106, 3) := by decide +kernel
theorem dX13_cost_38 : decode cX13_cost 38 = .ok (.iconst 3, 1) := by decide +kernel
theorem dX13_cost_39 : decode cX13_cost 39 = .ok (.aload_n 0, 1) := by decide +kernel
theorem dX13_cost_40 : decode cX13_cost 40 = .ok (.getfield 140, 3) := by decide +kernel
theorem dX13_cost_43 : decode cX13_cost 43 = .ok (.iadd, 1) := by decide +kernel
theorem dX13_cost_44 : decode cX13_cost 44 = .ok (.aload_n 0, 1) := by decide +kernel
theorem dX13_cost_45 : decode cX13_cost 45 = .ok (.getfield 143, 3) := by decide +kernel
theorem dX13_cost_48 : decode cX13_cost 48 = .ok (.iadd, 1) := by decide +kernel
theorem dX13_cost_49 : decode cX13_cost 49 = .ok (.ireturn, 1) := by decide +kernel
def EX13_scan : List (Nat × Nat) := [(15, 7), (15, 10), (15, 30), (15, 31), (155, 0), (156, 0), (157, 0), (166, 0), (167, 0)]
def EX13_cost : List (Nat × Nat) := [(15, 7), (15, 10), (15, 30), (15, 31), (155, 0), (156, 0), (157, 0), (166, 0), (167, 0)]
set_option maxHeartbeats 4000000 in
set_option maxRecDepth 20000 in
theorem uX13_scan (l : Launch) (dC : Nat → ClassId) (dI : Nat → Nat → Nat) (ca : Nat → ClassId) (base : Nat) (B : jF) (hB : jBok B) (hAp : jAp (dC, dI)) (hB15 : ∀ n G a H, B 15 n G a H ↔ jOb (dC, dI) 15 50 (F15 n G) a H) (hB101 : ∀ n G a H, B 101 n G a H ↔ jAr (dC, dI) (ca 1) (fun j z => True) n a H) (hB155 : ∀ n G a H, B 155 n G a H ↔ jAr (dC, dI) (ca 1) (fun j z => 0 ≤ z.toInt ∧ z.toInt ≤ 11990) n a H) (hB156 : ∀ n G a H, B 156 n G a H ↔ jAr (dC, dI) (ca 1) (fun j z => 0 ≤ z.toInt ∧ z.toInt ≤ 10) n a H) (hB157 : ∀ n G a H, B 157 n G a H ↔ jAr (dC, dI) (ca 1) (fun j z => 0 ≤ z.toInt ∧ z.toInt ≤ 1599) n a H) (hB166 : ∀ n G a H, B 166 n G a H ↔ jAr (dC, dI) (ca 1) (fun j z => True) n a H) (hB167 : ∀ n G a H, B 167 n G a H ↔ jAr (dC, dI) (ca 1) (fun j z => True) n a H) (G0 : jT) (H0 : Heap) (r0 : Nat) (r1 : Nat) (a2 : Int32) (a3 : Int32) (n1 : Nat) (pc : Int32) (ps : Int32) (f1 : Nat → Int32) : Met l yX13_scan (jw yX13_scan cX13_scan 7 none) ({ frames := 3, cells := 0, slots := 0, locals := 62 }) (va_Pc [.ref r0, .ref r1, .int a2, .int a3] (fun U => U.heap = H0 ∧ jX B base G0 [] H0 ∧ jG dC dI ca base U ∧ G0 r1 = some (101, n1) ∧ G0 r0 = some (15, 0) ∧ jP (dC, dI) G0 H0 [(r0, 15, 10, .int pc), (r0, 15, 7, .int ps)] ∧ jMc (dC, dI) G0 H0 [(r1, 101, n1, ca 1, f1)] ∧ 0 ≤ a2.toInt ∧ a2.toInt ≤ a3.toInt ∧ a3.toInt ≤ n1 ∧ n1 ≤ 1500 ∧ 0 ≤ pc.toInt ∧ pc.toInt + (a3.toInt - a2.toInt) ≤ 1599 ∧ 0 ≤ ps.toInt ∧ ps.toInt + (a3.toInt - a2.toInt) ≤ 11990)) (va_Qv (S := Int32 × Int32 × Int32) (fun u => 0 ≤ u.1.toInt ∧ u.1.toInt ≤ a3.toInt - a2.toInt ∧ pc.toInt ≤ u.2.1.toInt ∧ u.2.1.toInt ≤ pc.toInt + (a3.toInt - a2.toInt) ∧ ps.toInt ≤ u.2.2.toInt ∧ u.2.2.toInt ≤ ps.toInt + (a3.toInt - a2.toInt)) (fun u t => jRt (dC, dI) B base G0 EX13_scan H0 [(r0, 15, 30, .int u.1), (r0, 15, 10, .int u.2.1), (r0, 15, 7, .int u.2.2)] t.heap) (jA base)) 0 0 (jA base) := by
  refine Met.ofW (cc := cX13_scan) (maxL := 7) (ret := none) (by decide) rfl ?_
  intro p e s m args below meth c s₁ Bd hml hv
  obtain ⟨rfl, hH0, hX, hG, hg_r1, hg_r0, hP0, hM0, hp0, hp1, hp2, hp3, hp4, hp5, hp6, hp7⟩ := hv
  have hK := hG.1
  have hx := Bd.exec
  have hb := Bd.bytes
  have hr := Bd.returns
  have hts := atoms_spec (ws := (jw yX13_scan cX13_scan 7 none)) Bd.pre
  have htw : ∀ w ∈ jWl, w.before _ s = true := fun w h => hts w (List.mem_cons_of_mem _ h)
  have hown : s.vm.findClass RX13 = some m.cls := findClass_of_methodNamed Bd.named
  have hlocks := Bd.notSynchronized
  obtain ⟨Q, hQ⟩ : ∃ Q, Q = MQ below (va_Qv (S := Int32 × Int32 × Int32) (fun u => 0 ≤ u.1.toInt ∧ u.1.toInt ≤ a3.toInt - a2.toInt ∧ pc.toInt ≤ u.2.1.toInt ∧ u.2.1.toInt ≤ pc.toInt + (a3.toInt - a2.toInt) ∧ ps.toInt ≤ u.2.2.toInt ∧ u.2.2.toInt ≤ ps.toInt + (a3.toInt - a2.toInt)) (fun u t => jRt (dC, dI) B base G0 EX13_scan H0 [(r0, 15, 30, .int u.1), (r0, 15, 10, .int u.2.1), (r0, 15, 7, .int u.2.2)] t.heap) (jA base)) ([.ref r0, .ref r1, .int a2, .int a3] : List Value).toArray s 0 0 (jA base) := ⟨_, rfl⟩
  rw [← hQ]
  have hl := lv_entry ([.ref r0, .ref r1, .int a2, .int a3]) (n := 7) (Nat.le_of_ble_eq_true rfl)
  rw [lg_entry_eq]
  generalize (lg_sl ([.ref r0, .ref r1, .int a2, .int a3]) ++ List.replicate (7 - (lg_sl ([.ref r0, .ref r1, .int a2, .int a3])).length) Slot.unset).toArray = ls at hl ⊢
  have hl : lv_has ls 7 [(0, .ref r0), (1, .ref r1), (2, .int a2), (3, .int a3)] := hl
  generalize hR : (headSpec (jw yX13_scan cX13_scan 7 none) ({ frames := 3, cells := 0, slots := 0, locals := 62 })).room = R
  subst hH0
  have hh : jSt (dC, dI) B base G0 G0 EX13_scan s.heap 0 0 [(r0, 15, 10, .int pc), (r0, 15, 7, .int ps)] [(r1, 101, n1, ca 1, f1)] [] s.heap [] := jSt.start hX hP0 hM0 jIs.nil
  clear hX hP0
  have hk0 : (0 : Int32).toInt = 0 := by decide
  have hk1 : (1 : Int32).toInt = 1 := by decide
  have hk2 : (2 : Int32).toInt = 2 := by decide
  have hk3 : (3 : Int32).toInt = 3 := by decide
  have hk10 : (10 : Int32).toInt = 10 := by decide
  have hk40 : (40 : Int32).toInt = 40 := by decide
  have hk41 : (41 : Int32).toInt = 41 := by decide
  have hk42 : (42 : Int32).toInt = 42 := by decide
  have hk43 : (43 : Int32).toInt = 43 := by decide
  have hk44 : (44 : Int32).toInt = 44 := by decide
  have hk45 : (45 : Int32).toInt = 45 := by decide
  have hk46 : (46 : Int32).toInt = 46 := by decide
  have hk48 : (48 : Int32).toInt = 48 := by decide
  have hk57 : (57 : Int32).toInt = 57 := by decide
  have hk58 : (58 : Int32).toInt = 58 := by decide
  have hk61 : (61 : Int32).toInt = 61 := by decide
  have hk62 : (62 : Int32).toInt = 62 := by decide
  have hk126 : (126 : Int32).toInt = 126 := by decide
  have hly_15_30 := htw (u_lay RX13 TX13 30) (jWc_wsX130 _ (u_in_lay (by decide)))
  have hly_15_31 := htw (u_lay RX13 TX13 31) (jWc_wsX130 _ (u_in_lay (by decide)))
  have hlk_140 := (htw (.fieldLink RX13 140 "ProofServerModel$Kernel" "tokens" "I") (jWr_60 _ (List.mem_of_getElem? (i := 9) rfl)))
  have hlk_143 := (htw (.fieldLink RX13 143 "ProofServerModel$Kernel" "loose" "I") (jWr_60 _ (List.mem_of_getElem? (i := 1) rfl)))
  have hrg_a2 := jb_rng a2
  have hrg_a3 := jb_rng a3
  refine lv_aload_n hx hb dX13_scan_0 rfl (lv_at hl 0 rfl) ?_
  refine lv_iconst (v := 0) hx hb dX13_scan_1 (by decide) ?_
  refine j7_put hx hb hown hK hh hB hAp hB15 (C := RX13) (T := TX13) (N := 50) rfl (by decide) hg_r0 (i := 30) (by decide) hly_15_30 rfl hlk_140 rfl (ty := .int) (v := .int 0) (by decide +kernel) rfl rfl (⟨_, rfl, by omega, by omega⟩) rfl (L1 := [(r0, 15, 10, .int pc), (r0, 15, 7, .int ps)]) [0, 1] rfl rfl rfl dX13_scan_2 (fun H_1 locs_1 hh_1 => ?_)
  clear hh
  refine lv_aload_n hx hb dX13_scan_5 rfl (lv_at hl 0 rfl) ?_
  refine lv_iconst (v := 0) hx hb dX13_scan_6 (by decide) ?_
  refine j7_put hx hb hown hK hh_1 hB hAp hB15 (C := RX13) (T := TX13) (N := 50) rfl (by decide) hg_r0 (i := 31) (by decide) hly_15_31 rfl hlk_143 rfl (ty := .int) (v := .int 0) (by decide +kernel) rfl rfl (⟨_, rfl⟩) rfl (L1 := [(r0, 15, 30, .int 0), (r0, 15, 10, .int pc), (r0, 15, 7, .int ps)]) [0, 1, 2] rfl rfl rfl dX13_scan_7 (fun H_2 locs_2 hh_2 => ?_)
  clear hh_1
  refine lv_iload_n hx hb dX13_scan_10 rfl (lv_at hl 2 rfl) ?_
  refine lv_istore (lv' := [(4, .int a2), (0, .ref r0), (1, .ref r1), (2, .int a2), (3, .int a3)]) hx hb dX13_scan_11 hl (by decide) rfl (fun ls hl => ?_)
  have L13 : ∀ (N : Nat) (v4_3 : Int32) (wk_3 : Int32) (wc_3 : Int32) (ws_3 : Int32) (H_3 : Heap) (locs_3 : List Loc), jSt (dC, dI) B base G0 G0 EX13_scan s.heap 0 0 [(r0, 15, 30, .int wk_3), (r0, 15, 10, .int wc_3), (r0, 15, 7, .int ws_3)] [(r1, 101, n1, ca 1, f1)] [] H_3 locs_3 → (a2.toInt ≤ v4_3.toInt ∧ v4_3.toInt ≤ a3.toInt ∧ 0 ≤ wk_3.toInt ∧ wk_3.toInt ≤ v4_3.toInt - a2.toInt ∧ pc.toInt ≤ wc_3.toInt ∧ wc_3.toInt ≤ pc.toInt + (v4_3.toInt - a2.toInt) ∧ ps.toInt ≤ ws_3.toInt ∧ ws_3.toInt ≤ ps.toInt + (v4_3.toInt - a2.toInt)) → (a3.toInt - v4_3.toInt : Int) < N → ∀ ls : Array Slot, lv_has ls 7 [(0, .ref r0), (1, .ref r1), (2, .int a2), (3, .int a3), (4, .int v4_3)] → W p l e R s m ([.ref r0, .ref r1, .int a2, .int a3] : List Value).toArray below meth c H_3 locs_3 0 0 Q (F0 m 13 ls []) := by
    intro N
    induction N with
    | zero => intro v4_3 wk_3 wc_3 ws_3 H_3 locs_3 hh_3  hi_3 hm; exact absurd hm (by omega)
    | succ N L13 =>
      intro v4_3 wk_3 wc_3 ws_3 H_3 locs_3 hh_3  hi_3 hm_3 ls hl
      obtain ⟨hi_3_0, hi_3_1, hi_3_2, hi_3_3, hi_3_4, hi_3_5, hi_3_6, hi_3_7⟩ := hi_3
      refine lv_iload hx hb dX13_scan_13 (lv_at hl 4 rfl) ?_
      refine lv_iload_n hx hb dX13_scan_15 rfl (lv_at hl 3 rfl) ?_
      refine lv_icmp_ge (tgt := 328) hx hb dX13_scan_16 (by decide) (fun c_4 => ?_) (fun c_4 => ?_)
      · skip
        have c_4' : v4_3.toInt ≥ a3.toInt := jb_ge (rfl) (rfl) c_4
        rw [hQ]
        exact W.vret hx hb hr (fun t ht hW => ⟨⟨(wk_3, wc_3, ws_3), rfl, by first | omega | (refine ⟨?_, ?_, ?_, ?_, ?_, ?_⟩ <;> (first | omega | rfl | assumption | decide | exact Or.inl rfl | exact Or.inr rfl | (simp only; omega))), hh_3.rt (M1 := [(r0, 15, 30, .int wk_3), (r0, 15, 10, .int wc_3), (r0, 15, 7, .int ws_3)]) [0, 1, 2] rfl ht⟩, by rw [ht]; try exact hh_3.1.1, fun q h9 hq => by rw [ht]; try exact hh_3.1.2.1 q h9 hq⟩) hh_3.1.2.2 dX13_scan_328
      · skip
        have c_4' : v4_3.toInt < a3.toInt := jb_ge_n (rfl) (rfl) c_4
        refine lv_aload_n hx hb dX13_scan_19 rfl (lv_at hl 1 rfl) ?_
        refine lv_iload hx hb dX13_scan_20 (lv_at hl 4 rfl) ?_
        refine j7_ialdM hx hb hK hh_3 hB101 1 rfl (by decide) hg_r1 (x := v4_3.toInt) (rfl) (by omega) (j := 0) rfl dX13_scan_22 (fun z_5 ez_5 (hz_5 : True) => ?_)
        have hqz_5 : z_5.toInt = (f1 (v4_3.toInt).toNat).toInt := by rw [ez_5]
        have hjz_5 : jLt z_5.toInt = jLt (f1 (v4_3.toInt).toNat).toInt := by rw [hqz_5]
        refine lv_istore (lv' := [(5, .int z_5), (0, .ref r0), (1, .ref r1), (2, .int a2), (3, .int a3), (4, .int v4_3)]) hx hb dX13_scan_23 hl (by decide) rfl (fun ls hl => ?_)
        refine lv_iload hx hb dX13_scan_25 (lv_at hl 0 rfl) ?_
        refine vp_callSi (va_Run.run (va_runSN (As := [.int z_5]) (rest := []) ⟨hx, hb, hml, hown, hts⟩ (wX14_isBlank l dC dI ca base H_3 z_5) ⟨va_cnB 1 hts (jgW (jWr_57 _ (List.mem_of_getElem? (i := 18) rfl))) rfl rfl rfl (hG.2.2.1 RX13 146 yX14_isBlank "ProofServerModel" (List.mem_of_getElem? (i := 2571) (by decide +kernel))) (htw (.initialized RX14) (jWr_1 _ (List.mem_of_getElem? (i := 5) rfl))) (by decide +kernel) ⟨by rw [← hR]; exact Nat.le_of_ble_eq_true rfl, by rw [← hR]; exact Nat.le_of_ble_eq_true rfl⟩, htw (.static yX14_isBlank) (jWr_57 _ (List.mem_of_getElem? (i := 17) rfl)), trivial⟩ ⟨fun a U g mk q => by obtain ⟨q0, q1, qK, q9⟩ := q; exact ⟨q0, q1, jG.calling g mk a qK, q9⟩, fun U hU hW => ⟨rfl, hU, hG.step hW hU hh_3.1, by first | trivial | omega | (constructor <;> omega)⟩⟩ rfl rfl hl.1 rfl (lv_room (Nat.le_of_ble_eq_true rfl)) dX13_scan_27 ⟨Nat.zero_le _, Nat.zero_le _⟩)) (fun r_6 hr_6 => ?_)
        have hr_6' : r_6.toInt = 0 ∨ r_6.toInt = 1 := jb_01 hr_6
        refine lv_if_eq (tgt := 39) hx hb dX13_scan_30 (by decide) (fun c_7 => ?_) (fun c_7 => ?_)
        · skip
          have c_7' : r_6.toInt = 0 := jb_eq (rfl) ((by decide)) c_7
          refine lv_aload_n hx hb dX13_scan_39 rfl (lv_at hl 2 rfl) ?_
          refine lv_iload hx hb dX13_scan_40 (lv_at hl 5 rfl) ?_
          refine lv_iload_n hx hb dX13_scan_42 rfl (lv_at hl 4 rfl) ?_
          refine va_calli (A0 := jA base) (H0 := s.heap) (va_runSN (As := [.ref r1, .int v4_3, .int a3]) (rest := []) ⟨hx, hb, hml, hown, hts⟩ (uX14_opens l dC dI ca base B hB hAp hB101 G0 H_3 r1 v4_3 a3 n1 f1) ⟨va_cnB 3 hts (jgW (jWr_57 _ (List.mem_of_getElem? (i := 21) rfl))) rfl rfl rfl (hG.2.2.1 RX13 149 yX14_opens "ProofServerModel" (List.mem_of_getElem? (i := 2572) (by decide +kernel))) (htw (.initialized RX14) (jWr_1 _ (List.mem_of_getElem? (i := 5) rfl))) (by decide +kernel) ⟨by rw [← hR]; exact Nat.le_of_ble_eq_true rfl, by rw [← hR]; exact Nat.le_of_ble_eq_true rfl⟩, htw (.static yX14_opens) (jWr_57 _ (List.mem_of_getElem? (i := 20) rfl)), trivial⟩ ⟨fun a U g mk q => by obtain ⟨q0, q1, q2, qK, q10, q11, q12, q13⟩ := q; exact ⟨q0, q1, q2, jG.calling g mk a qK, q10, q11, q12, q13⟩, fun U hU hW => ⟨rfl, hU, hh_3.2.1, hG.step hW hU hh_3.1, hg_r1, jP.nil, (hh_3.2.2.2.2.2.2.2.1.sub (L1 := [(r1, 101, n1, ca 1, f1)]) [0] rfl), by first | omega | (refine ⟨?_, ?_, ?_, ?_, ?_⟩ <;> (first | omega | rfl | assumption | decide | exact Or.inl rfl | exact Or.inr rfl | (simp only; omega)))⟩⟩ rfl rfl hl.1 rfl (lv_room (Nat.le_of_ble_eq_true rfl)) dX13_scan_43 ⟨Nat.zero_le _, Nat.zero_le _⟩) hh_3.1 (fun q _ h => h) (fun q h => h) (fun r_9 u_8 t_8 H_8 locs_8 ht_8 hvm_8 hr_9 hb_8 hz_8 hk_8 hS_8 => ?_)
          rw [ht_8] at hb_8
          obtain ⟨hb_81, hb_82, hb_83, hb_84, hb_85⟩ := hb_8
          have hh_8 : jSt (dC, dI) B base G0 G0 EX13_scan s.heap 0 0 [(r0, 15, 30, .int wk_3), (r0, 15, 10, .int wc_3), (r0, 15, 7, .int ws_3)] [(r1, 101, n1, ca 1, f1)] [] H_8 locs_8 := ((hh_3.call hb_81 hb_82 hb_83 hb_84 hS_8 rfl (L1 := [(r0, 15, 30, .int wk_3), (r0, 15, 10, .int wc_3), (r0, 15, 7, .int ws_3)]) [0, 1, 2] rfl rfl (M1 := [(r1, 101, n1, ca 1, f1)]) [0] rfl rfl (I1 := []) [] rfl rfl).more hb_85)
          clear hh_3 ht_8 hvm_8 hz_8 hk_8 hS_8 hb_81 hb_82 hb_83 hb_84 hb_85
          obtain ⟨hr_9b, hr_9p⟩ := hr_9
          obtain ⟨hr_9p_0, hr_9p_1⟩ := hr_9p
          have hr_9' := jb_01 hr_9b
          refine lv_if_eq (tgt := 74) hx hb dX13_scan_46 (by decide) (fun c_10 => ?_) (fun c_10 => ?_)
          · skip
            have c_10' : r_9.toInt = 0 := jb_eq (rfl) ((by decide)) c_10
            refine lv_iload hx hb dX13_scan_74 (lv_at hl 0 rfl) ?_
            refine va_calli (A0 := jA base) (H0 := s.heap) (va_runS (As := [.int z_5]) (rest := []) ⟨hx, hb, hml, hown, hts⟩ (uX13_isLetter l dC dI ca base B hB hAp G0 H_8 z_5) (va_cwS 1 hts (jgS (jWr_60 _ (List.mem_of_getElem? (i := 10) rfl)) (jWr_60 _ (List.mem_of_getElem? (i := 11) rfl)) (jWr_12 _ (List.mem_of_getElem? (i := 12) rfl)) (jWr_60 _ (List.mem_of_getElem? (i := 12) rfl))) rfl rfl rfl (by decide +kernel) ⟨by rw [← hR]; exact Nat.le_of_ble_eq_true rfl, by rw [← hR]; exact Nat.le_of_ble_eq_true rfl⟩) ⟨fun a U g mk q => by obtain ⟨q0, q1, q2, qK, q10, q11⟩ := q; exact ⟨q0, q1, q2, jG.calling g mk a qK, q10, q11⟩, fun U hU hW => ⟨rfl, hU, hh_8.2.1, hG.step hW hU hh_8.1, jP.nil, trivial⟩⟩ rfl rfl hl.1 rfl (lv_room (Nat.le_of_ble_eq_true rfl)) dX13_scan_76 ⟨Nat.zero_le _, Nat.zero_le _⟩) hh_8.1 (fun q _ h => h) (fun q h => h) (fun r_12 u_11 t_11 H_11 locs_11 ht_11 hvm_11 hr_12 hb_11 hz_11 hk_11 hS_11 => ?_)
            rw [ht_11] at hb_11
            obtain ⟨hb_111, hb_112, hb_113, hb_114, hb_115⟩ := hb_11
            have hh_11 : jSt (dC, dI) B base G0 G0 EX13_scan s.heap 0 0 [(r0, 15, 30, .int wk_3), (r0, 15, 10, .int wc_3), (r0, 15, 7, .int ws_3)] [(r1, 101, n1, ca 1, f1)] [] H_11 locs_11 := ((hh_8.call hb_111 hb_112 hb_113 hb_114 hS_11 rfl (L1 := [(r0, 15, 30, .int wk_3), (r0, 15, 10, .int wc_3), (r0, 15, 7, .int ws_3)]) [0, 1, 2] rfl rfl (M1 := [(r1, 101, n1, ca 1, f1)]) [0] rfl rfl (I1 := []) [] rfl rfl).more hb_115)
            clear hh_8 ht_11 hvm_11 hz_11 hk_11 hS_11 hb_111 hb_112 hb_113 hb_114 hb_115
            obtain ⟨hr_12b, hr_12p⟩ := hr_12
            have hr_12' := jb_01 hr_12b
            refine lv_if_eq (tgt := 152) hx hb dX13_scan_79 (by decide) (fun c_13 => ?_) (fun c_13 => ?_)
            · skip
              have c_13' : r_12.toInt = 0 := jb_eq (rfl) ((by decide)) c_13
              refine lv_iload hx hb dX13_scan_152 (lv_at hl 0 rfl) ?_
              refine lv_bipush (v := 48) hx hb dX13_scan_154 (by decide) ?_
              refine lv_bipush (v := 57) hx hb dX13_scan_156 (by decide) ?_
              refine va_calli (A0 := jA base) (H0 := s.heap) (va_runSN (As := [.int z_5, .int 48, .int 57]) (rest := []) ⟨hx, hb, hml, hown, hts⟩ (uX14_in l dC dI ca base B hB hAp G0 H_11 z_5 48 57) ⟨va_cnB 3 hts (jgW (jWr_48 _ (List.mem_of_getElem? (i := 12) rfl))) rfl rfl rfl (hG.2.2.1 RX13 132 yX14_in "ProofServerModel" (List.mem_of_getElem? (i := 2577) (by decide +kernel))) (htw (.initialized RX14) (jWr_1 _ (List.mem_of_getElem? (i := 5) rfl))) (by decide +kernel) ⟨by rw [← hR]; exact Nat.le_of_ble_eq_true rfl, by rw [← hR]; exact Nat.le_of_ble_eq_true rfl⟩, htw (.static yX14_in) (jWr_48 _ (List.mem_of_getElem? (i := 11) rfl)), trivial⟩ ⟨fun a U g mk q => by obtain ⟨q0, q1, q2, qK, q10, q11⟩ := q; exact ⟨q0, q1, q2, jG.calling g mk a qK, q10, q11⟩, fun U hU hW => ⟨rfl, hU, hh_11.2.1, hG.step hW hU hh_11.1, jP.nil, trivial⟩⟩ rfl rfl hl.1 rfl (lv_room (Nat.le_of_ble_eq_true rfl)) dX13_scan_158 ⟨Nat.zero_le _, Nat.zero_le _⟩) hh_11.1 (fun q _ h => h) (fun q h => h) (fun r_15 u_14 t_14 H_14 locs_14 ht_14 hvm_14 hr_15 hb_14 hz_14 hk_14 hS_14 => ?_)
              rw [ht_14] at hb_14
              obtain ⟨hb_141, hb_142, hb_143, hb_144, hb_145⟩ := hb_14
              have hh_14 : jSt (dC, dI) B base G0 G0 EX13_scan s.heap 0 0 [(r0, 15, 30, .int wk_3), (r0, 15, 10, .int wc_3), (r0, 15, 7, .int ws_3)] [(r1, 101, n1, ca 1, f1)] [] H_14 locs_14 := ((hh_11.call hb_141 hb_142 hb_143 hb_144 hS_14 rfl (L1 := [(r0, 15, 30, .int wk_3), (r0, 15, 10, .int wc_3), (r0, 15, 7, .int ws_3)]) [0, 1, 2] rfl rfl (M1 := [(r1, 101, n1, ca 1, f1)]) [0] rfl rfl (I1 := []) [] rfl rfl).more hb_145)
              clear hh_11 ht_14 hvm_14 hz_14 hk_14 hS_14 hb_141 hb_142 hb_143 hb_144 hb_145
              obtain ⟨hr_15b, hr_15p⟩ := hr_15
              obtain ⟨hr_15p_0, hr_15p_1, hr_15p_2⟩ := hr_15p
              have hr_15' := jb_01 hr_15b
              refine lv_if_eq (tgt := 180) hx hb dX13_scan_161 (by decide) (fun c_16 => ?_) (fun c_16 => ?_)
              · skip
                have c_16' : r_15.toInt = 0 := jb_eq (rfl) ((by decide)) c_16
                refine lv_iload hx hb dX13_scan_180 (lv_at hl 0 rfl) ?_
                refine lv_bipush (v := 45) hx hb dX13_scan_182 (by decide) ?_
                have C219 : ∀ (H_17 : Heap) (locs_17 : List Loc), jSt (dC, dI) B base G0 G0 EX13_scan s.heap 0 0 [(r0, 15, 30, .int wk_3), (r0, 15, 10, .int wc_3), (r0, 15, 7, .int ws_3)] [(r1, 101, n1, ca 1, f1)] [] H_17 locs_17 → (True) → ∀ ls : Array Slot, lv_has ls 7 [(0, .ref r0), (1, .ref r1), (2, .int a2), (3, .int a3), (4, .int v4_3), (5, .int z_5)] → W p l e R s m ([.ref r0, .ref r1, .int a2, .int a3] : List Value).toArray below meth c H_17 locs_17 0 0 Q (F0 m 219 ls []) := by
                  intro  H_17 locs_17 hh_17  hi_17 ls hl
                  refine lv_iload hx hb dX13_scan_219 (lv_at hl 5 rfl) ?_
                  refine lv_bipush (v := 42) hx hb dX13_scan_221 (by decide) ?_
                  have C295 : ∀ (w0_18 : Int32) (H_18 : Heap) (locs_18 : List Loc), jSt (dC, dI) B base G0 G0 EX13_scan s.heap 0 0 [(r0, 15, 30, .int wk_3), (r0, 15, 10, .int wc_3), (r0, 15, 7, .int ws_3)] [(r1, 101, n1, ca 1, f1)] [] H_18 locs_18 → (w0_18 = 0 ∨ w0_18 = 1) → (w0_18.toInt = 0 ∨ (40 ≤ z_5.toInt ∧ z_5.toInt ≤ 126)) → ∀ ls : Array Slot, lv_has ls 7 [(0, .ref r0), (1, .ref r1), (2, .int a2), (3, .int a3), (4, .int v4_3), (5, .int z_5)] → W p l e R s m ([.ref r0, .ref r1, .int a2, .int a3] : List Value).toArray below meth c H_18 locs_18 0 0 Q (F0 m 295 ls [.int w0_18]) := by
                    intro w0_18 H_18 locs_18 hh_18 hb_w0_18 hi_18 ls hl
                    have hb_w0_18' := jb_01 hb_w0_18
                    refine lv_istore (lv' := [(6, .int w0_18), (0, .ref r0), (1, .ref r1), (2, .int a2), (3, .int a3), (4, .int v4_3), (5, .int z_5)]) hx hb dX13_scan_295 hl (by decide) rfl (fun ls hl => ?_)
                    refine lv_iload hx hb dX13_scan_297 (lv_at hl 0 rfl) ?_
                    refine lv_if_eq (tgt := 312) hx hb dX13_scan_299 (by decide) (fun c_19 => ?_) (fun c_19 => ?_)
                    · skip
                      have c_19' : w0_18.toInt = 0 := jb_eq (rfl) ((by decide)) c_19
                      refine lv_aload_n hx hb dX13_scan_312 rfl (lv_at hl 1 rfl) ?_
                      refine lv_dup hx hb dX13_scan_313 rfl ?_
                      obtain ⟨v_20, hv_20, hh_21⟩ := hh_18.pin (C := RX13) (T := TX13) (N := 50) hB15 rfl (by decide) hg_r0 (i := 31) (by decide) rfl
                      clear hh_18
                      obtain ⟨loose_22, rfl⟩ := hv_20
                      refine j7_read hx hb hown hK (C := RX13) (T := TX13) (N := 50) rfl hly_15_31 hlk_143 (hh_21.at 0 rfl) dX13_scan_314 ?_
                      refine lv_iconst (v := 1) hx hb dX13_scan_317 (by decide) ?_
                      refine lv_iadd hx hb dX13_scan_318 ?_
                      refine lv_topi (fun z_23 ez_23 => ?_)
                      refine j7_put hx hb hown hK hh_21 hB hAp hB15 (C := RX13) (T := TX13) (N := 50) rfl (by decide) hg_r0 (i := 31) (by decide) hly_15_31 rfl hlk_143 rfl (ty := .int) (v := .int z_23) (by decide +kernel) rfl rfl (⟨_, rfl⟩) rfl (L1 := [(r0, 15, 30, .int wk_3), (r0, 15, 10, .int wc_3), (r0, 15, 7, .int ws_3)]) [1, 2, 3] rfl rfl rfl dX13_scan_319 (fun H_24 locs_24 hh_24 => ?_)
                      clear hh_21
                      obtain ⟨z_25, ez_25⟩ : ∃ y : Int32, y = v4_3 + 1 := ⟨_, rfl⟩
                      refine lv_iinc (v := z_25) (lv' := [(4, .int z_25), (6, .int w0_18), (0, .ref r0), (1, .ref r1), (2, .int a2), (3, .int a3), (5, .int z_5)]) hx hb dX13_scan_322 hl (k := 5) rfl (by rw [ez_25]; rfl) (by decide) rfl (fun ls hl => ?_)
                      have hz_25 : z_25.toInt = v4_3.toInt + 1 := by rw [ez_25]; exact jb_iadd2 (rfl) (by decide) (by omega)
                      refine lv_goto (tgt := 13) hx hb dX13_scan_325 (by decide) ?_
                      exact L13 z_25 wk_3 wc_3 ws_3 _ _ (hh_24.sub (L1 := [(r0, 15, 30, .int wk_3), (r0, 15, 10, .int wc_3), (r0, 15, 7, .int ws_3)]) [1, 2, 3] rfl (M1 := [(r1, 101, n1, ca 1, f1)]) [0] rfl (I1 := []) [] rfl) (by first | omega | (refine ⟨?_, ?_, ?_, ?_, ?_, ?_, ?_, ?_⟩ <;> (first | omega | rfl | assumption | decide | exact Or.inl rfl | exact Or.inr rfl | (simp only; omega)))) (by omega) _ (lv_sub hl [2, 3, 4, 5, 0] rfl)
                    · skip
                      have c_19' : w0_18.toInt ≠ 0 := jb_eq_n (rfl) ((by decide)) c_19
                      refine lv_aload_n hx hb dX13_scan_302 rfl (lv_at hl 1 rfl) ?_
                      refine lv_iconst (v := 3) hx hb dX13_scan_303 (by decide) ?_
                      refine lv_iload hx hb dX13_scan_304 (lv_at hl 6 rfl) ?_
                      refine va_callv (A0 := jA base) (H0 := s.heap) (va_runV (As := [.int 3, .int z_5]) (rest := []) ⟨hx, hb, hml, hown, hts⟩ (uX13_token l dC dI ca base B hB hAp hB15 hB157 hB167 G0 H_18 r0 3 z_5 wk_3) (cwV 2 hts (jgV (jWr_60 _ (List.mem_of_getElem? (i := 20) rfl)) (jWr_60 _ (List.mem_of_getElem? (i := 21) rfl)) (jWr_60 _ (List.mem_of_getElem? (i := 22) rfl)) (jWr_12 _ (List.mem_of_getElem? (i := 12) rfl)) (jWr_60 _ (List.mem_of_getElem? (i := 23) rfl))) rfl rfl rfl (by decide +kernel) ⟨by rw [← hR]; exact Nat.le_of_ble_eq_true rfl, by rw [← hR]; exact Nat.le_of_ble_eq_true rfl⟩) ⟨fun a U g mk q => by obtain ⟨q0, q1, q2, qK, q10, q11, q12⟩ := q; exact ⟨q0, q1, q2, jG.calling g mk a qK, q10, q11, q12⟩, hh_18.recv (C := RX13) (T := TX13) (N := 50) hB15 rfl (by decide) hg_r0 hK, fun U hU hW => ⟨rfl, hU, hh_18.2.1, hG.step hW hU hh_18.1, hg_r0, (hh_18.2.2.1.sub (L1 := [(r0, 15, 30, .int wk_3)]) [0] rfl), by first | omega | (refine ⟨?_, ?_, ?_, ?_⟩ <;> (first | omega | rfl | assumption | decide | exact Or.inl rfl | exact Or.inr rfl | (simp only; omega)))⟩⟩ rfl rfl hl.1 rfl (lv_room (Nat.le_of_ble_eq_true rfl)) dX13_scan_306 ⟨Nat.zero_le _, Nat.zero_le _⟩) hh_18.1 (fun q _ h => h) (fun q h => h) (fun u_26 t_26 H_26 locs_26 ht_26 hvm_26 hr_27 hb_26 hz_26 hk_26 hS_26 => ?_)
                      obtain ⟨qk_26, rfl⟩ : ∃ z, z = u_26 := ⟨_, rfl⟩
                      rw [ht_26] at hb_26
                      obtain ⟨hb_261, hb_262, hb_263, hb_264, hb_265⟩ := hb_26
                      have hh_26 : jSt (dC, dI) B base G0 G0 EX13_scan s.heap 0 0 [(r0, 15, 30, .int qk_26), (r0, 15, 10, .int wc_3), (r0, 15, 7, .int ws_3)] [(r1, 101, n1, ca 1, f1)] [] H_26 locs_26 := ((hh_18.call hb_261 hb_262 hb_263 hb_264 hS_26 rfl (L1 := [(r0, 15, 10, .int wc_3), (r0, 15, 7, .int ws_3)]) [1, 2] rfl rfl (M1 := [(r1, 101, n1, ca 1, f1)]) [0] rfl rfl (I1 := []) [] rfl rfl).more hb_265)
                      clear hh_18 ht_26 hvm_26 hz_26 hk_26 hS_26 hb_261 hb_262 hb_263 hb_264 hb_265
                      refine lv_goto (tgt := 322) hx hb dX13_scan_309 (by decide) ?_
                      obtain ⟨z_28, ez_28⟩ : ∃ y : Int32, y = v4_3 + 1 := ⟨_, rfl⟩
                      refine lv_iinc (v := z_28) (lv' := [(4, .int z_28), (6, .int w0_18), (0, .ref r0), (1, .ref r1), (2, .int a2), (3, .int a3), (5, .int z_5)]) hx hb dX13_scan_322 hl (k := 5) rfl (by rw [ez_28]; rfl) (by decide) rfl (fun ls hl => ?_)
                      have hz_28 : z_28.toInt = v4_3.toInt + 1 := by rw [ez_28]; exact jb_iadd2 (rfl) (by decide) (by omega)
                      refine lv_goto (tgt := 13) hx hb dX13_scan_325 (by decide) ?_
                      exact L13 z_28 qk_26 wc_3 ws_3 _ _ hh_26 (by first | omega | (refine ⟨?_, ?_, ?_, ?_, ?_, ?_, ?_, ?_⟩ <;> (first | omega | rfl | assumption | decide | exact Or.inl rfl | exact Or.inr rfl | (simp only; omega)))) (by omega) _ (lv_sub hl [2, 3, 4, 5, 0] rfl)
                  have C290 : ∀ (H_29 : Heap) (locs_29 : List Loc), jSt (dC, dI) B base G0 G0 EX13_scan s.heap 0 0 [(r0, 15, 30, .int wk_3), (r0, 15, 10, .int wc_3), (r0, 15, 7, .int ws_3)] [(r1, 101, n1, ca 1, f1)] [] H_29 locs_29 → (40 ≤ z_5.toInt ∧ z_5.toInt ≤ 126) → ∀ ls : Array Slot, lv_has ls 7 [(0, .ref r0), (1, .ref r1), (2, .int a2), (3, .int a3), (4, .int v4_3), (5, .int z_5)] → W p l e R s m ([.ref r0, .ref r1, .int a2, .int a3] : List Value).toArray below meth c H_29 locs_29 0 0 Q (F0 m 290 ls []) := by
                    intro  H_29 locs_29 hh_29  hi_29 ls hl
                    obtain ⟨hi_29_0, hi_29_1⟩ := hi_29
                    refine lv_iconst (v := 1) hx hb dX13_scan_290 (by decide) ?_
                    refine lv_goto (tgt := 295) hx hb dX13_scan_291 (by decide) ?_
                    exact C295 1 _ _ hh_29 (Or.inr rfl) (by first | omega | rfl | assumption | decide | exact Or.inl rfl | exact Or.inr rfl | (simp only; omega)) _ (lv_sub hl [0, 1, 2, 3, 4, 5] rfl)
                  refine lv_icmp_eq (tgt := 290) hx hb dX13_scan_223 (by decide) (fun c_30 => ?_) (fun c_30 => ?_)
                  · skip
                    have c_30' : z_5.toInt = 42 := jb_eq (rfl) ((by decide)) c_30
                    exact C290  _ _ hh_17 (by first | omega | (refine ⟨?_, ?_⟩ <;> (first | omega | rfl | assumption | decide | exact Or.inl rfl | exact Or.inr rfl | (simp only; omega)))) _ (lv_sub hl [0, 1, 2, 3, 4, 5] rfl)
                  · skip
                    have c_30' : z_5.toInt ≠ 42 := jb_eq_n (rfl) ((by decide)) c_30
                    refine lv_iload hx hb dX13_scan_226 (lv_at hl 5 rfl) ?_
                    refine lv_bipush (v := 43) hx hb dX13_scan_228 (by decide) ?_
                    refine lv_icmp_eq (tgt := 290) hx hb dX13_scan_230 (by decide) (fun c_31 => ?_) (fun c_31 => ?_)
                    · skip
                      have c_31' : z_5.toInt = 43 := jb_eq (rfl) ((by decide)) c_31
                      exact C290  _ _ hh_17 (by first | omega | (refine ⟨?_, ?_⟩ <;> (first | omega | rfl | assumption | decide | exact Or.inl rfl | exact Or.inr rfl | (simp only; omega)))) _ (lv_sub hl [0, 1, 2, 3, 4, 5] rfl)
                    · skip
                      have c_31' : z_5.toInt ≠ 43 := jb_eq_n (rfl) ((by decide)) c_31
                      refine lv_iload hx hb dX13_scan_233 (lv_at hl 5 rfl) ?_
                      refine lv_bipush (v := 126) hx hb dX13_scan_235 (by decide) ?_
                      refine lv_icmp_eq (tgt := 290) hx hb dX13_scan_237 (by decide) (fun c_32 => ?_) (fun c_32 => ?_)
                      · skip
                        have c_32' : z_5.toInt = 126 := jb_eq (rfl) ((by decide)) c_32
                        exact C290  _ _ hh_17 (by first | omega | (refine ⟨?_, ?_⟩ <;> (first | omega | rfl | assumption | decide | exact Or.inl rfl | exact Or.inr rfl | (simp only; omega)))) _ (lv_sub hl [0, 1, 2, 3, 4, 5] rfl)
                      · skip
                        have c_32' : z_5.toInt ≠ 126 := jb_eq_n (rfl) ((by decide)) c_32
                        refine lv_iload hx hb dX13_scan_240 (lv_at hl 5 rfl) ?_
                        refine lv_bipush (v := 61) hx hb dX13_scan_242 (by decide) ?_
                        refine lv_icmp_eq (tgt := 290) hx hb dX13_scan_244 (by decide) (fun c_33 => ?_) (fun c_33 => ?_)
                        · skip
                          have c_33' : z_5.toInt = 61 := jb_eq (rfl) ((by decide)) c_33
                          exact C290  _ _ hh_17 (by first | omega | (refine ⟨?_, ?_⟩ <;> (first | omega | rfl | assumption | decide | exact Or.inl rfl | exact Or.inr rfl | (simp only; omega)))) _ (lv_sub hl [0, 1, 2, 3, 4, 5] rfl)
                        · skip
                          have c_33' : z_5.toInt ≠ 61 := jb_eq_n (rfl) ((by decide)) c_33
                          refine lv_iload hx hb dX13_scan_247 (lv_at hl 5 rfl) ?_
                          refine lv_bipush (v := 58) hx hb dX13_scan_249 (by decide) ?_
                          refine lv_icmp_eq (tgt := 290) hx hb dX13_scan_251 (by decide) (fun c_34 => ?_) (fun c_34 => ?_)
                          · skip
                            have c_34' : z_5.toInt = 58 := jb_eq (rfl) ((by decide)) c_34
                            exact C290  _ _ hh_17 (by first | omega | (refine ⟨?_, ?_⟩ <;> (first | omega | rfl | assumption | decide | exact Or.inl rfl | exact Or.inr rfl | (simp only; omega)))) _ (lv_sub hl [0, 1, 2, 3, 4, 5] rfl)
                          · skip
                            have c_34' : z_5.toInt ≠ 58 := jb_eq_n (rfl) ((by decide)) c_34
                            refine lv_iload hx hb dX13_scan_254 (lv_at hl 5 rfl) ?_
                            refine lv_bipush (v := 44) hx hb dX13_scan_256 (by decide) ?_
                            refine lv_icmp_eq (tgt := 290) hx hb dX13_scan_258 (by decide) (fun c_35 => ?_) (fun c_35 => ?_)
                            · skip
                              have c_35' : z_5.toInt = 44 := jb_eq (rfl) ((by decide)) c_35
                              exact C290  _ _ hh_17 (by first | omega | (refine ⟨?_, ?_⟩ <;> (first | omega | rfl | assumption | decide | exact Or.inl rfl | exact Or.inr rfl | (simp only; omega)))) _ (lv_sub hl [0, 1, 2, 3, 4, 5] rfl)
                            · skip
                              have c_35' : z_5.toInt ≠ 44 := jb_eq_n (rfl) ((by decide)) c_35
                              refine lv_iload hx hb dX13_scan_261 (lv_at hl 5 rfl) ?_
                              refine lv_bipush (v := 40) hx hb dX13_scan_263 (by decide) ?_
                              refine lv_icmp_eq (tgt := 290) hx hb dX13_scan_265 (by decide) (fun c_36 => ?_) (fun c_36 => ?_)
                              · skip
                                have c_36' : z_5.toInt = 40 := jb_eq (rfl) ((by decide)) c_36
                                exact C290  _ _ hh_17 (by first | omega | (refine ⟨?_, ?_⟩ <;> (first | omega | rfl | assumption | decide | exact Or.inl rfl | exact Or.inr rfl | (simp only; omega)))) _ (lv_sub hl [0, 1, 2, 3, 4, 5] rfl)
                              · skip
                                have c_36' : z_5.toInt ≠ 40 := jb_eq_n (rfl) ((by decide)) c_36
                                refine lv_iload hx hb dX13_scan_268 (lv_at hl 5 rfl) ?_
                                refine lv_bipush (v := 41) hx hb dX13_scan_270 (by decide) ?_
                                refine lv_icmp_eq (tgt := 290) hx hb dX13_scan_272 (by decide) (fun c_37 => ?_) (fun c_37 => ?_)
                                · skip
                                  have c_37' : z_5.toInt = 41 := jb_eq (rfl) ((by decide)) c_37
                                  exact C290  _ _ hh_17 (by first | omega | (refine ⟨?_, ?_⟩ <;> (first | omega | rfl | assumption | decide | exact Or.inl rfl | exact Or.inr rfl | (simp only; omega)))) _ (lv_sub hl [0, 1, 2, 3, 4, 5] rfl)
                                · skip
                                  have c_37' : z_5.toInt ≠ 41 := jb_eq_n (rfl) ((by decide)) c_37
                                  refine lv_iload hx hb dX13_scan_275 (lv_at hl 5 rfl) ?_
                                  refine lv_bipush (v := 46) hx hb dX13_scan_277 (by decide) ?_
                                  refine lv_icmp_ne (tgt := 294) hx hb dX13_scan_279 (by decide) (fun c_38 => ?_) (fun c_38 => ?_)
                                  · skip
                                    have c_38' : z_5.toInt ≠ 46 := jb_ne (rfl) ((by decide)) c_38
                                    refine lv_iconst (v := 0) hx hb dX13_scan_294 (by decide) ?_
                                    exact C295 0 _ _ hh_17 (Or.inl rfl) (by first | omega | rfl | assumption | decide | exact Or.inl rfl | exact Or.inr rfl | (simp only; omega)) _ (lv_sub hl [0, 1, 2, 3, 4, 5] rfl)
                                  · skip
                                    have c_38' : z_5.toInt = 46 := jb_ne_n (rfl) ((by decide)) c_38
                                    refine lv_iload hx hb dX13_scan_282 (lv_at hl 4 rfl) ?_
                                    refine lv_iconst (v := 1) hx hb dX13_scan_284 (by decide) ?_
                                    refine lv_iadd hx hb dX13_scan_285 ?_
                                    refine lv_topi (fun z_39 ez_39 => ?_)
                                    have hz_39 : z_39.toInt = v4_3.toInt + 1 := by rw [ez_39]; exact jb_iadd2 (rfl) ((by decide)) (by omega)
                                    refine lv_iload_n hx hb dX13_scan_286 rfl (lv_at hl 3 rfl) ?_
                                    refine lv_icmp_ne (tgt := 294) hx hb dX13_scan_287 (by decide) (fun c_40 => ?_) (fun c_40 => ?_)
                                    · skip
                                      have c_40' : z_39.toInt ≠ a3.toInt := jb_ne (rfl) (rfl) c_40
                                      refine lv_iconst (v := 0) hx hb dX13_scan_294 (by decide) ?_
                                      exact C295 0 _ _ hh_17 (Or.inl rfl) (by first | omega | rfl | assumption | decide | exact Or.inl rfl | exact Or.inr rfl | (simp only; omega)) _ (lv_sub hl [0, 1, 2, 3, 4, 5] rfl)
                                    · skip
                                      have c_40' : z_39.toInt = a3.toInt := jb_ne_n (rfl) (rfl) c_40
                                      exact C290  _ _ hh_17 (by first | omega | (refine ⟨?_, ?_⟩ <;> (first | omega | rfl | assumption | decide | exact Or.inl rfl | exact Or.inr rfl | (simp only; omega)))) _ (lv_sub hl [0, 1, 2, 3, 4, 5] rfl)
                refine lv_icmp_ne (tgt := 219) hx hb dX13_scan_184 (by decide) (fun c_41 => ?_) (fun c_41 => ?_)
                · skip
                  have c_41' : z_5.toInt ≠ 45 := jb_ne (rfl) ((by decide)) c_41
                  exact C219  _ _ hh_14 (trivial) _ (lv_sub hl [1, 2, 3, 4, 5, 0] rfl)
                · skip
                  have c_41' : z_5.toInt = 45 := jb_ne_n (rfl) ((by decide)) c_41
                  refine lv_iload hx hb dX13_scan_187 (lv_at hl 5 rfl) ?_
                  refine lv_iconst (v := 1) hx hb dX13_scan_189 (by decide) ?_
                  refine lv_iadd hx hb dX13_scan_190 ?_
                  refine lv_topi (fun z_42 ez_42 => ?_)
                  have hz_42 : z_42.toInt = v4_3.toInt + 1 := by rw [ez_42]; exact jb_iadd2 (rfl) ((by decide)) (by omega)
                  refine lv_iload_n hx hb dX13_scan_191 rfl (lv_at hl 4 rfl) ?_
                  refine lv_icmp_ge (tgt := 219) hx hb dX13_scan_192 (by decide) (fun c_43 => ?_) (fun c_43 => ?_)
                  · skip
                    have c_43' : z_42.toInt ≥ a3.toInt := jb_ge (rfl) (rfl) c_43
                    exact C219  _ _ hh_14 (trivial) _ (lv_sub hl [1, 2, 3, 4, 5, 0] rfl)
                  · skip
                    have c_43' : z_42.toInt < a3.toInt := jb_ge_n (rfl) (rfl) c_43
                    refine lv_aload_n hx hb dX13_scan_195 rfl (lv_at hl 2 rfl) ?_
                    refine lv_iload hx hb dX13_scan_196 (lv_at hl 5 rfl) ?_
                    refine lv_iconst (v := 1) hx hb dX13_scan_198 (by decide) ?_
                    refine lv_iadd hx hb dX13_scan_199 ?_
                    refine lv_topi (fun z_44 ez_44 => ?_)
                    have hz_44 : z_44.toInt = v4_3.toInt + 1 := by rw [ez_44]; exact jb_iadd2 (rfl) ((by decide)) (by omega)
                    refine j7_ialdM hx hb hK hh_14 hB101 1 rfl (by decide) hg_r1 (x := z_44.toInt) (rfl) (by omega) (j := 0) rfl dX13_scan_200 (fun z_45 ez_45 (hz_45 : True) => ?_)
                    have hqz_45 : z_45.toInt = (f1 ((v4_3.toInt + 1)).toNat).toInt := by rw [ez_45, show z_44.toInt = (v4_3.toInt + 1) by omega]
                    first | have hqz_45_46 : z_45.toInt = (f1 (v4_3.toInt).toNat).toInt := by rw [ez_45, show z_44.toInt = v4_3.toInt by omega] | skip
                    have hjz_45 : jLt z_45.toInt = jLt (f1 ((v4_3.toInt + 1)).toNat).toInt := by rw [hqz_45]
                    refine lv_bipush (v := 62) hx hb dX13_scan_201 (by decide) ?_
                    refine lv_icmp_ne (tgt := 219) hx hb dX13_scan_203 (by decide) (fun c_47 => ?_) (fun c_47 => ?_)
                    · skip
                      have c_47' : z_45.toInt ≠ 62 := jb_ne (rfl) ((by decide)) c_47
                      exact C219  _ _ hh_14 (trivial) _ (lv_sub hl [1, 2, 3, 4, 5, 0] rfl)
                    · skip
                      have c_47' : z_45.toInt = 62 := jb_ne_n (rfl) ((by decide)) c_47
                      refine lv_aload_n hx hb dX13_scan_206 rfl (lv_at hl 1 rfl) ?_
                      refine lv_iconst (v := 3) hx hb dX13_scan_207 (by decide) ?_
                      refine lv_bipush (v := 62) hx hb dX13_scan_208 (by decide) ?_
                      refine va_callv (A0 := jA base) (H0 := s.heap) (va_runV (As := [.int 3, .int 62]) (rest := []) ⟨hx, hb, hml, hown, hts⟩ (uX13_token l dC dI ca base B hB hAp hB15 hB157 hB167 G0 H_14 r0 3 62 wk_3) (cwV 2 hts (jgV (jWr_60 _ (List.mem_of_getElem? (i := 20) rfl)) (jWr_60 _ (List.mem_of_getElem? (i := 21) rfl)) (jWr_60 _ (List.mem_of_getElem? (i := 22) rfl)) (jWr_12 _ (List.mem_of_getElem? (i := 12) rfl)) (jWr_60 _ (List.mem_of_getElem? (i := 23) rfl))) rfl rfl rfl (by decide +kernel) ⟨by rw [← hR]; exact Nat.le_of_ble_eq_true rfl, by rw [← hR]; exact Nat.le_of_ble_eq_true rfl⟩) ⟨fun a U g mk q => by obtain ⟨q0, q1, q2, qK, q10, q11, q12⟩ := q; exact ⟨q0, q1, q2, jG.calling g mk a qK, q10, q11, q12⟩, hh_14.recv (C := RX13) (T := TX13) (N := 50) hB15 rfl (by decide) hg_r0 hK, fun U hU hW => ⟨rfl, hU, hh_14.2.1, hG.step hW hU hh_14.1, hg_r0, (hh_14.2.2.1.sub (L1 := [(r0, 15, 30, .int wk_3)]) [0] rfl), by first | omega | (refine ⟨?_, ?_, ?_, ?_⟩ <;> (first | omega | rfl | assumption | decide | exact Or.inl rfl | exact Or.inr rfl | (simp only; omega)))⟩⟩ rfl rfl hl.1 rfl (lv_room (Nat.le_of_ble_eq_true rfl)) dX13_scan_210 ⟨Nat.zero_le _, Nat.zero_le _⟩) hh_14.1 (fun q _ h => h) (fun q h => h) (fun u_48 t_48 H_48 locs_48 ht_48 hvm_48 hr_49 hb_48 hz_48 hk_48 hS_48 => ?_)
                      obtain ⟨qk_48, rfl⟩ : ∃ z, z = u_48 := ⟨_, rfl⟩
                      rw [ht_48] at hb_48
                      obtain ⟨hb_481, hb_482, hb_483, hb_484, hb_485⟩ := hb_48
                      have hh_48 : jSt (dC, dI) B base G0 G0 EX13_scan s.heap 0 0 [(r0, 15, 30, .int qk_48), (r0, 15, 10, .int wc_3), (r0, 15, 7, .int ws_3)] [(r1, 101, n1, ca 1, f1)] [] H_48 locs_48 := ((hh_14.call hb_481 hb_482 hb_483 hb_484 hS_48 rfl (L1 := [(r0, 15, 10, .int wc_3), (r0, 15, 7, .int ws_3)]) [1, 2] rfl rfl (M1 := [(r1, 101, n1, ca 1, f1)]) [0] rfl rfl (I1 := []) [] rfl rfl).more hb_485)
                      clear hh_14 ht_48 hvm_48 hz_48 hk_48 hS_48 hb_481 hb_482 hb_483 hb_484 hb_485
                      obtain ⟨z_50, ez_50⟩ : ∃ y : Int32, y = v4_3 + 2 := ⟨_, rfl⟩
                      refine lv_iinc (v := z_50) (lv' := [(4, .int z_50), (5, .int z_5), (0, .ref r0), (1, .ref r1), (2, .int a2), (3, .int a3)]) hx hb dX13_scan_213 hl (k := 5) rfl (by rw [ez_50]; rfl) (by decide) rfl (fun ls hl => ?_)
                      have hz_50 : z_50.toInt = v4_3.toInt + 2 := by rw [ez_50]; exact jb_iadd2 (rfl) (by decide) (by omega)
                      refine lv_goto (tgt := 325) hx hb dX13_scan_216 (by decide) ?_
                      refine lv_goto (tgt := 13) hx hb dX13_scan_325 (by decide) ?_
                      exact L13 z_50 qk_48 wc_3 ws_3 _ _ hh_48 (by first | omega | (refine ⟨?_, ?_, ?_, ?_, ?_, ?_, ?_, ?_⟩ <;> (first | omega | rfl | assumption | decide | exact Or.inl rfl | exact Or.inr rfl | (simp only; omega)))) (by omega) _ (lv_sub hl [2, 3, 4, 5, 0] rfl)
              · skip
                have c_16' : r_15.toInt ≠ 0 := jb_eq_n (rfl) ((by decide)) c_16
                refine lv_aload_n hx hb dX13_scan_164 rfl (lv_at hl 1 rfl) ?_
                refine lv_iconst (v := 2) hx hb dX13_scan_165 (by decide) ?_
                refine lv_iload hx hb dX13_scan_166 (lv_at hl 0 rfl) ?_
                refine lv_bipush (v := 48) hx hb dX13_scan_168 (by decide) ?_
                refine lv_isub hx hb dX13_scan_170 ?_
                refine lv_topi (fun z_51 ez_51 => ?_)
                have hz_51 : z_51.toInt = z_5.toInt - 48 := by rw [ez_51]; exact jb_isub2 (rfl) ((by decide)) (by omega)
                refine va_callv (A0 := jA base) (H0 := s.heap) (va_runV (As := [.int 2, .int z_51]) (rest := []) ⟨hx, hb, hml, hown, hts⟩ (uX13_token l dC dI ca base B hB hAp hB15 hB157 hB167 G0 H_14 r0 2 z_51 wk_3) (cwV 2 hts (jgV (jWr_60 _ (List.mem_of_getElem? (i := 20) rfl)) (jWr_60 _ (List.mem_of_getElem? (i := 21) rfl)) (jWr_60 _ (List.mem_of_getElem? (i := 22) rfl)) (jWr_12 _ (List.mem_of_getElem? (i := 12) rfl)) (jWr_60 _ (List.mem_of_getElem? (i := 23) rfl))) rfl rfl rfl (by decide +kernel) ⟨by rw [← hR]; exact Nat.le_of_ble_eq_true rfl, by rw [← hR]; exact Nat.le_of_ble_eq_true rfl⟩) ⟨fun a U g mk q => by obtain ⟨q0, q1, q2, qK, q10, q11, q12⟩ := q; exact ⟨q0, q1, q2, jG.calling g mk a qK, q10, q11, q12⟩, hh_14.recv (C := RX13) (T := TX13) (N := 50) hB15 rfl (by decide) hg_r0 hK, fun U hU hW => ⟨rfl, hU, hh_14.2.1, hG.step hW hU hh_14.1, hg_r0, (hh_14.2.2.1.sub (L1 := [(r0, 15, 30, .int wk_3)]) [0] rfl), by first | omega | (refine ⟨?_, ?_, ?_, ?_⟩ <;> (first | omega | rfl | assumption | decide | exact Or.inl rfl | exact Or.inr rfl | (simp only; omega)))⟩⟩ rfl rfl hl.1 rfl (lv_room (Nat.le_of_ble_eq_true rfl)) dX13_scan_171 ⟨Nat.zero_le _, Nat.zero_le _⟩) hh_14.1 (fun q _ h => h) (fun q h => h) (fun u_52 t_52 H_52 locs_52 ht_52 hvm_52 hr_53 hb_52 hz_52 hk_52 hS_52 => ?_)
                obtain ⟨qk_52, rfl⟩ : ∃ z, z = u_52 := ⟨_, rfl⟩
                rw [ht_52] at hb_52
                obtain ⟨hb_521, hb_522, hb_523, hb_524, hb_525⟩ := hb_52
                have hh_52 : jSt (dC, dI) B base G0 G0 EX13_scan s.heap 0 0 [(r0, 15, 30, .int qk_52), (r0, 15, 10, .int wc_3), (r0, 15, 7, .int ws_3)] [(r1, 101, n1, ca 1, f1)] [] H_52 locs_52 := ((hh_14.call hb_521 hb_522 hb_523 hb_524 hS_52 rfl (L1 := [(r0, 15, 10, .int wc_3), (r0, 15, 7, .int ws_3)]) [1, 2] rfl rfl (M1 := [(r1, 101, n1, ca 1, f1)]) [0] rfl rfl (I1 := []) [] rfl rfl).more hb_525)
                clear hh_14 ht_52 hvm_52 hz_52 hk_52 hS_52 hb_521 hb_522 hb_523 hb_524 hb_525
                obtain ⟨z_54, ez_54⟩ : ∃ y : Int32, y = v4_3 + 1 := ⟨_, rfl⟩
                refine lv_iinc (v := z_54) (lv' := [(4, .int z_54), (5, .int z_5), (0, .ref r0), (1, .ref r1), (2, .int a2), (3, .int a3)]) hx hb dX13_scan_174 hl (k := 5) rfl (by rw [ez_54]; rfl) (by decide) rfl (fun ls hl => ?_)
                have hz_54 : z_54.toInt = v4_3.toInt + 1 := by rw [ez_54]; exact jb_iadd2 (rfl) (by decide) (by omega)
                refine lv_goto (tgt := 325) hx hb dX13_scan_177 (by decide) ?_
                refine lv_goto (tgt := 13) hx hb dX13_scan_325 (by decide) ?_
                exact L13 z_54 qk_52 wc_3 ws_3 _ _ hh_52 (by first | omega | (refine ⟨?_, ?_, ?_, ?_, ?_, ?_, ?_, ?_⟩ <;> (first | omega | rfl | assumption | decide | exact Or.inl rfl | exact Or.inr rfl | (simp only; omega)))) (by omega) _ (lv_sub hl [2, 3, 4, 5, 0] rfl)
            · skip
              have c_13' : r_12.toInt ≠ 0 := jb_eq_n (rfl) ((by decide)) c_13
              refine lv_iload hx hb dX13_scan_82 (lv_at hl 5 rfl) ?_
              refine lv_istore (lv' := [(6, .int v4_3), (5, .int z_5), (0, .ref r0), (1, .ref r1), (2, .int a2), (3, .int a3), (4, .int v4_3)]) hx hb dX13_scan_84 hl (by decide) rfl (fun ls hl => ?_)
              have L86 : ∀ (N : Nat) (v4_55 : Int32) (H_55 : Heap) (locs_55 : List Loc), jSt (dC, dI) B base G0 G0 EX13_scan s.heap 0 0 [(r0, 15, 30, .int wk_3), (r0, 15, 10, .int wc_3), (r0, 15, 7, .int ws_3)] [(r1, 101, n1, ca 1, f1)] [] H_55 locs_55 → (v4_3.toInt ≤ v4_55.toInt ∧ v4_55.toInt ≤ a3.toInt ∧ (v4_3.toInt < v4_55.toInt ∨ jLt (f1 (v4_3.toInt).toNat).toInt = 1)) → (a3.toInt - v4_55.toInt : Int) < N → ∀ ls : Array Slot, lv_has ls 7 [(0, .ref r0), (1, .ref r1), (2, .int a2), (3, .int a3), (4, .int v4_55), (5, .int z_5), (6, .int v4_3)] → W p l e R s m ([.ref r0, .ref r1, .int a2, .int a3] : List Value).toArray below meth c H_55 locs_55 0 0 Q (F0 m 86 ls []) := by
                intro N
                induction N with
                | zero => intro v4_55 H_55 locs_55 hh_55  hi_55 hm; exact absurd hm (by omega)
                | succ N L86 =>
                  intro v4_55 H_55 locs_55 hh_55  hi_55 hm_55 ls hl
                  obtain ⟨hi_55_0, hi_55_1, hi_55_2⟩ := hi_55
                  have hcg : v4_55.toInt = v4_3.toInt → jLt (f1 (v4_55.toInt).toNat).toInt = jLt (f1 (v4_3.toInt).toNat).toInt := fun h => by rw [h]
                  refine lv_iload hx hb dX13_scan_86 (lv_at hl 4 rfl) ?_
                  refine lv_iload_n hx hb dX13_scan_88 rfl (lv_at hl 3 rfl) ?_
                  refine lv_icmp_ge (tgt := 108) hx hb dX13_scan_89 (by decide) (fun c_56 => ?_) (fun c_56 => ?_)
                  · skip
                    have c_56' : v4_55.toInt ≥ a3.toInt := jb_ge (rfl) (rfl) c_56
                    refine lv_iload hx hb dX13_scan_108 (lv_at hl 4 rfl) ?_
                    refine lv_iload hx hb dX13_scan_110 (lv_at hl 6 rfl) ?_
                    refine lv_isub hx hb dX13_scan_112 ?_
                    refine lv_topi (fun z_57 ez_57 => ?_)
                    have hz_57 : z_57.toInt = v4_55.toInt - v4_3.toInt := by rw [ez_57]; exact jb_isub2 (rfl) (rfl) (by omega)
                    refine lv_bipush (v := 10) hx hb dX13_scan_113 (by decide) ?_
                    refine lv_icmp_le (tgt := 135) hx hb dX13_scan_115 (by decide) (fun c_58 => ?_) (fun c_58 => ?_)
                    · skip
                      have c_58' : z_57.toInt ≤ 10 := jb_le (rfl) ((by decide)) c_58
                      refine lv_aload_n hx hb dX13_scan_135 rfl (lv_at hl 0 rfl) ?_
                      refine lv_iconst (v := 1) hx hb dX13_scan_136 (by decide) ?_
                      refine lv_aload_n hx hb dX13_scan_137 rfl (lv_at hl 0 rfl) ?_
                      refine lv_aload_n hx hb dX13_scan_138 rfl (lv_at hl 1 rfl) ?_
                      refine lv_iload hx hb dX13_scan_139 (lv_at hl 6 rfl) ?_
                      refine lv_iload hx hb dX13_scan_141 (lv_at hl 4 rfl) ?_
                      refine va_calli (A0 := jA base) (H0 := s.heap) (va_runV (As := [.ref r1, .int v4_3, .int v4_55]) (rest := [.int 1, .ref r0]) ⟨hx, hb, hml, hown, hts⟩ (uX13_nameOf l dC dI ca base B hB hAp hB15 hB101 hB155 hB156 hB166 G0 H_55 r0 r1 v4_3 v4_55 n1 wc_3 ws_3) (cwV 3 hts (jgV (jWr_60 _ (List.mem_of_getElem? (i := 16) rfl)) (jWr_60 _ (List.mem_of_getElem? (i := 17) rfl)) (jWr_60 _ (List.mem_of_getElem? (i := 18) rfl)) (jWr_12 _ (List.mem_of_getElem? (i := 12) rfl)) (jWr_60 _ (List.mem_of_getElem? (i := 19) rfl))) rfl rfl rfl (by decide +kernel) ⟨by rw [← hR]; exact Nat.le_of_ble_eq_true rfl, by rw [← hR]; exact Nat.le_of_ble_eq_true rfl⟩) ⟨fun a U g mk q => by obtain ⟨q0, q1, q2, qK, q10, q11, q12, q13⟩ := q; exact ⟨q0, q1, q2, jG.calling g mk a qK, q10, q11, q12, q13⟩, hh_55.recv (C := RX13) (T := TX13) (N := 50) hB15 rfl (by decide) hg_r0 hK, fun U hU hW => ⟨rfl, hU, hh_55.2.1, hG.step hW hU hh_55.1, hg_r1, hg_r0, (hh_55.2.2.1.sub (L1 := [(r0, 15, 10, .int wc_3), (r0, 15, 7, .int ws_3)]) [1, 2] rfl), by first | omega | (refine ⟨?_, ?_, ?_, ?_, ?_, ?_, ?_, ?_, ?_⟩ <;> (first | omega | rfl | assumption | decide | exact Or.inl rfl | exact Or.inr rfl | (simp only; omega)))⟩⟩ rfl rfl hl.1 rfl (lv_room (Nat.le_of_ble_eq_true rfl)) dX13_scan_143 ⟨Nat.zero_le _, Nat.zero_le _⟩) hh_55.1 (fun q _ h => h) (fun q h => h) (fun r_60 u_59 t_59 H_59 locs_59 ht_59 hvm_59 hr_60 hb_59 hz_59 hk_59 hS_59 => ?_)
                      obtain ⟨qc_59, qs_59⟩ := u_59
                      rw [ht_59] at hb_59
                      obtain ⟨hb_591, hb_592, hb_593, hb_594, hb_595⟩ := hb_59
                      have hh_59 : jSt (dC, dI) B base G0 G0 EX13_scan s.heap 0 0 [(r0, 15, 10, .int qc_59), (r0, 15, 7, .int qs_59), (r0, 15, 30, .int wk_3)] [(r1, 101, n1, ca 1, f1)] [] H_59 locs_59 := ((hh_55.call hb_591 hb_592 hb_593 hb_594 hS_59 rfl (L1 := [(r0, 15, 30, .int wk_3)]) [0] rfl rfl (M1 := [(r1, 101, n1, ca 1, f1)]) [0] rfl rfl (I1 := []) [] rfl rfl).more hb_595)
                      clear hh_55 ht_59 hvm_59 hz_59 hk_59 hS_59 hb_591 hb_592 hb_593 hb_594 hb_595
                      try simp only at hr_60
                      obtain ⟨hr_60_0, hr_60_1, hr_60_2, hr_60_3, hr_60_4, hr_60_5⟩ := hr_60
                      refine va_callv (A0 := jA base) (H0 := s.heap) (va_runV (As := [.int 1, .int r_60]) (rest := []) ⟨hx, hb, hml, hown, hts⟩ (uX13_token l dC dI ca base B hB hAp hB15 hB157 hB167 G0 H_59 r0 1 r_60 wk_3) (cwV 2 hts (jgV (jWr_60 _ (List.mem_of_getElem? (i := 20) rfl)) (jWr_60 _ (List.mem_of_getElem? (i := 21) rfl)) (jWr_60 _ (List.mem_of_getElem? (i := 22) rfl)) (jWr_12 _ (List.mem_of_getElem? (i := 12) rfl)) (jWr_60 _ (List.mem_of_getElem? (i := 23) rfl))) rfl rfl rfl (by decide +kernel) ⟨by rw [← hR]; exact Nat.le_of_ble_eq_true rfl, by rw [← hR]; exact Nat.le_of_ble_eq_true rfl⟩) ⟨fun a U g mk q => by obtain ⟨q0, q1, q2, qK, q10, q11, q12⟩ := q; exact ⟨q0, q1, q2, jG.calling g mk a qK, q10, q11, q12⟩, hh_59.recv (C := RX13) (T := TX13) (N := 50) hB15 rfl (by decide) hg_r0 hK, fun U hU hW => ⟨rfl, hU, hh_59.2.1, hG.step hW hU hh_59.1, hg_r0, (hh_59.2.2.1.sub (L1 := [(r0, 15, 30, .int wk_3)]) [2] rfl), by first | omega | (refine ⟨?_, ?_, ?_, ?_⟩ <;> (first | omega | rfl | assumption | decide | exact Or.inl rfl | exact Or.inr rfl | (simp only; omega)))⟩⟩ rfl rfl hl.1 rfl (lv_room (Nat.le_of_ble_eq_true rfl)) dX13_scan_146 ⟨Nat.zero_le _, Nat.zero_le _⟩) hh_59.1 (fun q _ h => h) (fun q h => h) (fun u_61 t_61 H_61 locs_61 ht_61 hvm_61 hr_62 hb_61 hz_61 hk_61 hS_61 => ?_)
                      obtain ⟨qk_61, rfl⟩ : ∃ z, z = u_61 := ⟨_, rfl⟩
                      rw [ht_61] at hb_61
                      obtain ⟨hb_611, hb_612, hb_613, hb_614, hb_615⟩ := hb_61
                      have hh_61 : jSt (dC, dI) B base G0 G0 EX13_scan s.heap 0 0 [(r0, 15, 30, .int qk_61), (r0, 15, 10, .int qc_59), (r0, 15, 7, .int qs_59)] [(r1, 101, n1, ca 1, f1)] [] H_61 locs_61 := ((hh_59.call hb_611 hb_612 hb_613 hb_614 hS_61 rfl (L1 := [(r0, 15, 10, .int qc_59), (r0, 15, 7, .int qs_59)]) [0, 1] rfl rfl (M1 := [(r1, 101, n1, ca 1, f1)]) [0] rfl rfl (I1 := []) [] rfl rfl).more hb_615)
                      clear hh_59 ht_61 hvm_61 hz_61 hk_61 hS_61 hb_611 hb_612 hb_613 hb_614 hb_615
                      refine lv_goto (tgt := 325) hx hb dX13_scan_149 (by decide) ?_
                      refine lv_goto (tgt := 13) hx hb dX13_scan_325 (by decide) ?_
                      exact L13 v4_55 qk_61 qc_59 qs_59 _ _ hh_61 (by first | omega | (refine ⟨?_, ?_, ?_, ?_, ?_, ?_, ?_, ?_⟩ <;> (first | omega | rfl | assumption | decide | exact Or.inl rfl | exact Or.inr rfl | (simp only; omega)))) (by omega) _ (lv_sub hl [0, 1, 2, 3, 4] rfl)
                    · skip
                      have c_58' : z_57.toInt > 10 := jb_le_n (rfl) ((by decide)) c_58
                      refine lv_aload_n hx hb dX13_scan_118 rfl (lv_at hl 0 rfl) ?_
                      refine lv_dup hx hb dX13_scan_119 rfl ?_
                      obtain ⟨v_63, hv_63, hh_64⟩ := hh_55.pin (C := RX13) (T := TX13) (N := 50) hB15 rfl (by decide) hg_r0 (i := 31) (by decide) rfl
                      clear hh_55
                      obtain ⟨loose_65, rfl⟩ := hv_63
                      refine j7_read hx hb hown hK (C := RX13) (T := TX13) (N := 50) rfl hly_15_31 hlk_143 (hh_64.at 0 rfl) dX13_scan_120 ?_
                      refine lv_iload hx hb dX13_scan_123 (lv_at hl 4 rfl) ?_
                      refine lv_iload hx hb dX13_scan_125 (lv_at hl 6 rfl) ?_
                      refine lv_isub hx hb dX13_scan_127 ?_
                      refine lv_topi (fun z_66 ez_66 => ?_)
                      have hz_66 : z_66.toInt = v4_55.toInt - v4_3.toInt := by rw [ez_66]; exact jb_isub2 (rfl) (rfl) (by omega)
                      refine lv_iadd hx hb dX13_scan_128 ?_
                      refine lv_topi (fun z_67 ez_67 => ?_)
                      refine j7_put hx hb hown hK hh_64 hB hAp hB15 (C := RX13) (T := TX13) (N := 50) rfl (by decide) hg_r0 (i := 31) (by decide) hly_15_31 rfl hlk_143 rfl (ty := .int) (v := .int z_67) (by decide +kernel) rfl rfl (⟨_, rfl⟩) rfl (L1 := [(r0, 15, 30, .int wk_3), (r0, 15, 10, .int wc_3), (r0, 15, 7, .int ws_3)]) [1, 2, 3] rfl rfl rfl dX13_scan_129 (fun H_68 locs_68 hh_68 => ?_)
                      clear hh_64
                      refine lv_goto (tgt := 149) hx hb dX13_scan_132 (by decide) ?_
                      refine lv_goto (tgt := 325) hx hb dX13_scan_149 (by decide) ?_
                      refine lv_goto (tgt := 13) hx hb dX13_scan_325 (by decide) ?_
                      exact L13 v4_55 wk_3 wc_3 ws_3 _ _ (hh_68.sub (L1 := [(r0, 15, 30, .int wk_3), (r0, 15, 10, .int wc_3), (r0, 15, 7, .int ws_3)]) [1, 2, 3] rfl (M1 := [(r1, 101, n1, ca 1, f1)]) [0] rfl (I1 := []) [] rfl) (by first | omega | (refine ⟨?_, ?_, ?_, ?_, ?_, ?_, ?_, ?_⟩ <;> (first | omega | rfl | assumption | decide | exact Or.inl rfl | exact Or.inr rfl | (simp only; omega)))) (by omega) _ (lv_sub hl [0, 1, 2, 3, 4] rfl)
                  · skip
                    have c_56' : v4_55.toInt < a3.toInt := jb_ge_n (rfl) (rfl) c_56
                    refine lv_aload_n hx hb dX13_scan_92 rfl (lv_at hl 1 rfl) ?_
                    refine lv_iload hx hb dX13_scan_93 (lv_at hl 4 rfl) ?_
                    refine j7_ialdM hx hb hK hh_55 hB101 1 rfl (by decide) hg_r1 (x := v4_55.toInt) (rfl) (by omega) (j := 0) rfl dX13_scan_95 (fun z_69 ez_69 (hz_69 : True) => ?_)
                    have hqz_69 : z_69.toInt = (f1 (v4_55.toInt).toNat).toInt := by rw [ez_69]
                    have hjz_69 : jLt z_69.toInt = jLt (f1 (v4_55.toInt).toNat).toInt := by rw [hqz_69]
                    refine va_calli (A0 := jA base) (H0 := s.heap) (va_runS (As := [.int z_69]) (rest := []) ⟨hx, hb, hml, hown, hts⟩ (uX13_isNameSign l dC dI ca base B hB hAp G0 H_55 z_69) (va_cwS 1 hts (jgS (jWr_60 _ (List.mem_of_getElem? (i := 13) rfl)) (jWr_60 _ (List.mem_of_getElem? (i := 14) rfl)) (jWr_12 _ (List.mem_of_getElem? (i := 12) rfl)) (jWr_60 _ (List.mem_of_getElem? (i := 15) rfl))) rfl rfl rfl (by decide +kernel) ⟨by rw [← hR]; exact Nat.le_of_ble_eq_true rfl, by rw [← hR]; exact Nat.le_of_ble_eq_true rfl⟩) ⟨fun a U g mk q => by obtain ⟨q0, q1, q2, qK, q10, q11⟩ := q; exact ⟨q0, q1, q2, jG.calling g mk a qK, q10, q11⟩, fun U hU hW => ⟨rfl, hU, hh_55.2.1, hG.step hW hU hh_55.1, jP.nil, trivial⟩⟩ rfl rfl hl.1 rfl (lv_room (Nat.le_of_ble_eq_true rfl)) dX13_scan_96 ⟨Nat.zero_le _, Nat.zero_le _⟩) hh_55.1 (fun q _ h => h) (fun q h => h) (fun r_71 u_70 t_70 H_70 locs_70 ht_70 hvm_70 hr_71 hb_70 hz_70 hk_70 hS_70 => ?_)
                    rw [ht_70] at hb_70
                    obtain ⟨hb_701, hb_702, hb_703, hb_704, hb_705⟩ := hb_70
                    have hh_70 : jSt (dC, dI) B base G0 G0 EX13_scan s.heap 0 0 [(r0, 15, 30, .int wk_3), (r0, 15, 10, .int wc_3), (r0, 15, 7, .int ws_3)] [(r1, 101, n1, ca 1, f1)] [] H_70 locs_70 := ((hh_55.call hb_701 hb_702 hb_703 hb_704 hS_70 rfl (L1 := [(r0, 15, 30, .int wk_3), (r0, 15, 10, .int wc_3), (r0, 15, 7, .int ws_3)]) [0, 1, 2] rfl rfl (M1 := [(r1, 101, n1, ca 1, f1)]) [0] rfl rfl (I1 := []) [] rfl rfl).more hb_705)
                    clear hh_55 ht_70 hvm_70 hz_70 hk_70 hS_70 hb_701 hb_702 hb_703 hb_704 hb_705
                    obtain ⟨hr_71b, hr_71p⟩ := hr_71
                    have hr_71' := jb_01 hr_71b
                    refine lv_if_eq (tgt := 108) hx hb dX13_scan_99 (by decide) (fun c_72 => ?_) (fun c_72 => ?_)
                    · skip
                      have c_72' : r_71.toInt = 0 := jb_eq (rfl) ((by decide)) c_72
                      first | (have hr_71pq := hr_71p.resolve_left (by omega); clear hr_71p) | (have hr_71pq := hr_71p.resolve_right (by omega); clear hr_71p) | try clear hr_71p
                      refine lv_iload hx hb dX13_scan_108 (lv_at hl 4 rfl) ?_
                      refine lv_iload hx hb dX13_scan_110 (lv_at hl 6 rfl) ?_
                      refine lv_isub hx hb dX13_scan_112 ?_
                      refine lv_topi (fun z_73 ez_73 => ?_)
                      have hz_73 : z_73.toInt = v4_55.toInt - v4_3.toInt := by rw [ez_73]; exact jb_isub2 (rfl) (rfl) (by omega)
                      refine lv_bipush (v := 10) hx hb dX13_scan_113 (by decide) ?_
                      refine lv_icmp_le (tgt := 135) hx hb dX13_scan_115 (by decide) (fun c_74 => ?_) (fun c_74 => ?_)
                      · skip
                        have c_74' : z_73.toInt ≤ 10 := jb_le (rfl) ((by decide)) c_74
                        refine lv_aload_n hx hb dX13_scan_135 rfl (lv_at hl 0 rfl) ?_
                        refine lv_iconst (v := 1) hx hb dX13_scan_136 (by decide) ?_
                        refine lv_aload_n hx hb dX13_scan_137 rfl (lv_at hl 0 rfl) ?_
                        refine lv_aload_n hx hb dX13_scan_138 rfl (lv_at hl 1 rfl) ?_
                        refine lv_iload hx hb dX13_scan_139 (lv_at hl 6 rfl) ?_
                        refine lv_iload hx hb dX13_scan_141 (lv_at hl 4 rfl) ?_
                        refine va_calli (A0 := jA base) (H0 := s.heap) (va_runV (As := [.ref r1, .int v4_3, .int v4_55]) (rest := [.int 1, .ref r0]) ⟨hx, hb, hml, hown, hts⟩ (uX13_nameOf l dC dI ca base B hB hAp hB15 hB101 hB155 hB156 hB166 G0 H_70 r0 r1 v4_3 v4_55 n1 wc_3 ws_3) (cwV 3 hts (jgV (jWr_60 _ (List.mem_of_getElem? (i := 16) rfl)) (jWr_60 _ (List.mem_of_getElem? (i := 17) rfl)) (jWr_60 _ (List.mem_of_getElem? (i := 18) rfl)) (jWr_12 _ (List.mem_of_getElem? (i := 12) rfl)) (jWr_60 _ (List.mem_of_getElem? (i := 19) rfl))) rfl rfl rfl (by decide +kernel) ⟨by rw [← hR]; exact Nat.le_of_ble_eq_true rfl, by rw [← hR]; exact Nat.le_of_ble_eq_true rfl⟩) ⟨fun a U g mk q => by obtain ⟨q0, q1, q2, qK, q10, q11, q12, q13⟩ := q; exact ⟨q0, q1, q2, jG.calling g mk a qK, q10, q11, q12, q13⟩, hh_70.recv (C := RX13) (T := TX13) (N := 50) hB15 rfl (by decide) hg_r0 hK, fun U hU hW => ⟨rfl, hU, hh_70.2.1, hG.step hW hU hh_70.1, hg_r1, hg_r0, (hh_70.2.2.1.sub (L1 := [(r0, 15, 10, .int wc_3), (r0, 15, 7, .int ws_3)]) [1, 2] rfl), by first | omega | (refine ⟨?_, ?_, ?_, ?_, ?_, ?_, ?_, ?_, ?_⟩ <;> (first | omega | rfl | assumption | decide | exact Or.inl rfl | exact Or.inr rfl | (simp only; omega)))⟩⟩ rfl rfl hl.1 rfl (lv_room (Nat.le_of_ble_eq_true rfl)) dX13_scan_143 ⟨Nat.zero_le _, Nat.zero_le _⟩) hh_70.1 (fun q _ h => h) (fun q h => h) (fun r_76 u_75 t_75 H_75 locs_75 ht_75 hvm_75 hr_76 hb_75 hz_75 hk_75 hS_75 => ?_)
                        obtain ⟨qc_75, qs_75⟩ := u_75
                        rw [ht_75] at hb_75
                        obtain ⟨hb_751, hb_752, hb_753, hb_754, hb_755⟩ := hb_75
                        have hh_75 : jSt (dC, dI) B base G0 G0 EX13_scan s.heap 0 0 [(r0, 15, 10, .int qc_75), (r0, 15, 7, .int qs_75), (r0, 15, 30, .int wk_3)] [(r1, 101, n1, ca 1, f1)] [] H_75 locs_75 := ((hh_70.call hb_751 hb_752 hb_753 hb_754 hS_75 rfl (L1 := [(r0, 15, 30, .int wk_3)]) [0] rfl rfl (M1 := [(r1, 101, n1, ca 1, f1)]) [0] rfl rfl (I1 := []) [] rfl rfl).more hb_755)
                        clear hh_70 ht_75 hvm_75 hz_75 hk_75 hS_75 hb_751 hb_752 hb_753 hb_754 hb_755
                        try simp only at hr_76
                        obtain ⟨hr_76_0, hr_76_1, hr_76_2, hr_76_3, hr_76_4, hr_76_5⟩ := hr_76
                        refine va_callv (A0 := jA base) (H0 := s.heap) (va_runV (As := [.int 1, .int r_76]) (rest := []) ⟨hx, hb, hml, hown, hts⟩ (uX13_token l dC dI ca base B hB hAp hB15 hB157 hB167 G0 H_75 r0 1 r_76 wk_3) (cwV 2 hts (jgV (jWr_60 _ (List.mem_of_getElem? (i := 20) rfl)) (jWr_60 _ (List.mem_of_getElem? (i := 21) rfl)) (jWr_60 _ (List.mem_of_getElem? (i := 22) rfl)) (jWr_12 _ (List.mem_of_getElem? (i := 12) rfl)) (jWr_60 _ (List.mem_of_getElem? (i := 23) rfl))) rfl rfl rfl (by decide +kernel) ⟨by rw [← hR]; exact Nat.le_of_ble_eq_true rfl, by rw [← hR]; exact Nat.le_of_ble_eq_true rfl⟩) ⟨fun a U g mk q => by obtain ⟨q0, q1, q2, qK, q10, q11, q12⟩ := q; exact ⟨q0, q1, q2, jG.calling g mk a qK, q10, q11, q12⟩, hh_75.recv (C := RX13) (T := TX13) (N := 50) hB15 rfl (by decide) hg_r0 hK, fun U hU hW => ⟨rfl, hU, hh_75.2.1, hG.step hW hU hh_75.1, hg_r0, (hh_75.2.2.1.sub (L1 := [(r0, 15, 30, .int wk_3)]) [2] rfl), by first | omega | (refine ⟨?_, ?_, ?_, ?_⟩ <;> (first | omega | rfl | assumption | decide | exact Or.inl rfl | exact Or.inr rfl | (simp only; omega)))⟩⟩ rfl rfl hl.1 rfl (lv_room (Nat.le_of_ble_eq_true rfl)) dX13_scan_146 ⟨Nat.zero_le _, Nat.zero_le _⟩) hh_75.1 (fun q _ h => h) (fun q h => h) (fun u_77 t_77 H_77 locs_77 ht_77 hvm_77 hr_78 hb_77 hz_77 hk_77 hS_77 => ?_)
                        obtain ⟨qk_77, rfl⟩ : ∃ z, z = u_77 := ⟨_, rfl⟩
                        rw [ht_77] at hb_77
                        obtain ⟨hb_771, hb_772, hb_773, hb_774, hb_775⟩ := hb_77
                        have hh_77 : jSt (dC, dI) B base G0 G0 EX13_scan s.heap 0 0 [(r0, 15, 30, .int qk_77), (r0, 15, 10, .int qc_75), (r0, 15, 7, .int qs_75)] [(r1, 101, n1, ca 1, f1)] [] H_77 locs_77 := ((hh_75.call hb_771 hb_772 hb_773 hb_774 hS_77 rfl (L1 := [(r0, 15, 10, .int qc_75), (r0, 15, 7, .int qs_75)]) [0, 1] rfl rfl (M1 := [(r1, 101, n1, ca 1, f1)]) [0] rfl rfl (I1 := []) [] rfl rfl).more hb_775)
                        clear hh_75 ht_77 hvm_77 hz_77 hk_77 hS_77 hb_771 hb_772 hb_773 hb_774 hb_775
                        refine lv_goto (tgt := 325) hx hb dX13_scan_149 (by decide) ?_
                        refine lv_goto (tgt := 13) hx hb dX13_scan_325 (by decide) ?_
                        exact L13 v4_55 qk_77 qc_75 qs_75 _ _ hh_77 (by first | omega | (refine ⟨?_, ?_, ?_, ?_, ?_, ?_, ?_, ?_⟩ <;> (first | omega | rfl | assumption | decide | exact Or.inl rfl | exact Or.inr rfl | (simp only; omega)))) (by omega) _ (lv_sub hl [0, 1, 2, 3, 4] rfl)
                      · skip
                        have c_74' : z_73.toInt > 10 := jb_le_n (rfl) ((by decide)) c_74
                        refine lv_aload_n hx hb dX13_scan_118 rfl (lv_at hl 0 rfl) ?_
                        refine lv_dup hx hb dX13_scan_119 rfl ?_
                        obtain ⟨v_79, hv_79, hh_80⟩ := hh_70.pin (C := RX13) (T := TX13) (N := 50) hB15 rfl (by decide) hg_r0 (i := 31) (by decide) rfl
                        clear hh_70
                        obtain ⟨loose_81, rfl⟩ := hv_79
                        refine j7_read hx hb hown hK (C := RX13) (T := TX13) (N := 50) rfl hly_15_31 hlk_143 (hh_80.at 0 rfl) dX13_scan_120 ?_
                        refine lv_iload hx hb dX13_scan_123 (lv_at hl 4 rfl) ?_
                        refine lv_iload hx hb dX13_scan_125 (lv_at hl 6 rfl) ?_
                        refine lv_isub hx hb dX13_scan_127 ?_
                        refine lv_topi (fun z_82 ez_82 => ?_)
                        have hz_82 : z_82.toInt = v4_55.toInt - v4_3.toInt := by rw [ez_82]; exact jb_isub2 (rfl) (rfl) (by omega)
                        refine lv_iadd hx hb dX13_scan_128 ?_
                        refine lv_topi (fun z_83 ez_83 => ?_)
                        refine j7_put hx hb hown hK hh_80 hB hAp hB15 (C := RX13) (T := TX13) (N := 50) rfl (by decide) hg_r0 (i := 31) (by decide) hly_15_31 rfl hlk_143 rfl (ty := .int) (v := .int z_83) (by decide +kernel) rfl rfl (⟨_, rfl⟩) rfl (L1 := [(r0, 15, 30, .int wk_3), (r0, 15, 10, .int wc_3), (r0, 15, 7, .int ws_3)]) [1, 2, 3] rfl rfl rfl dX13_scan_129 (fun H_84 locs_84 hh_84 => ?_)
                        clear hh_80
                        refine lv_goto (tgt := 149) hx hb dX13_scan_132 (by decide) ?_
                        refine lv_goto (tgt := 325) hx hb dX13_scan_149 (by decide) ?_
                        refine lv_goto (tgt := 13) hx hb dX13_scan_325 (by decide) ?_
                        exact L13 v4_55 wk_3 wc_3 ws_3 _ _ (hh_84.sub (L1 := [(r0, 15, 30, .int wk_3), (r0, 15, 10, .int wc_3), (r0, 15, 7, .int ws_3)]) [1, 2, 3] rfl (M1 := [(r1, 101, n1, ca 1, f1)]) [0] rfl (I1 := []) [] rfl) (by first | omega | (refine ⟨?_, ?_, ?_, ?_, ?_, ?_, ?_, ?_⟩ <;> (first | omega | rfl | assumption | decide | exact Or.inl rfl | exact Or.inr rfl | (simp only; omega)))) (by omega) _ (lv_sub hl [0, 1, 2, 3, 4] rfl)
                    · skip
                      have c_72' : r_71.toInt ≠ 0 := jb_eq_n (rfl) ((by decide)) c_72
                      first | (have hr_71pq := hr_71p.resolve_left (by omega); clear hr_71p) | (have hr_71pq := hr_71p.resolve_right (by omega); clear hr_71p) | try clear hr_71p
                      obtain ⟨z_85, ez_85⟩ : ∃ y : Int32, y = v4_55 + 1 := ⟨_, rfl⟩
                      refine lv_iinc (v := z_85) (lv' := [(4, .int z_85), (0, .ref r0), (1, .ref r1), (2, .int a2), (3, .int a3), (5, .int z_5), (6, .int v4_3)]) hx hb dX13_scan_102 hl (k := 4) rfl (by rw [ez_85]; rfl) (by decide) rfl (fun ls hl => ?_)
                      have hz_85 : z_85.toInt = v4_55.toInt + 1 := by rw [ez_85]; exact jb_iadd2 (rfl) (by decide) (by omega)
                      refine lv_goto (tgt := 86) hx hb dX13_scan_105 (by decide) ?_
                      exact L86 z_85 _ _ hh_70 (by first | omega | (refine ⟨?_, ?_, ?_⟩ <;> (first | omega | rfl | assumption | decide | exact Or.inl rfl | exact Or.inr rfl | (simp only; omega)))) (by omega) _ (lv_sub hl [1, 2, 3, 4, 0, 5, 6] rfl)
              exact L86 (a3.toInt - (v4_3 : Int32).toInt : Int).toNat.succ v4_3 _ _ hh_11 (by first | omega | (refine ⟨?_, ?_, ?_⟩ <;> (first | omega | rfl | assumption | decide | exact Or.inl rfl | exact Or.inr rfl | (simp only; omega)))) (by omega) _ (lv_sub hl [2, 3, 4, 5, 6, 1, 0] rfl)
          · skip
            have c_10' : r_9.toInt ≠ 0 := jb_eq_n (rfl) ((by decide)) c_10
            refine lv_aload_n hx hb dX13_scan_49 rfl (lv_at hl 2 rfl) ?_
            refine lv_iload hx hb dX13_scan_50 (lv_at hl 5 rfl) ?_
            refine lv_iload_n hx hb dX13_scan_52 rfl (lv_at hl 4 rfl) ?_
            refine va_calli (A0 := jA base) (H0 := s.heap) (va_runSN (As := [.ref r1, .int v4_3, .int a3]) (rest := []) ⟨hx, hb, hml, hown, hts⟩ (uX14_behindComment l dC dI ca base B hB hAp hB101 G0 H_8 r1 v4_3 a3 n1 f1) ⟨va_cnB 3 hts (jgW (jWr_58 _ (List.mem_of_getElem? (i := 0) rfl))) rfl rfl rfl (hG.2.2.1 RX13 153 yX14_behindComment "ProofServerModel" (List.mem_of_getElem? (i := 2573) (by decide +kernel))) (htw (.initialized RX14) (jWr_1 _ (List.mem_of_getElem? (i := 5) rfl))) (by decide +kernel) ⟨by rw [← hR]; exact Nat.le_of_ble_eq_true rfl, by rw [← hR]; exact Nat.le_of_ble_eq_true rfl⟩, htw (.static yX14_behindComment) (jWr_57 _ (List.mem_of_getElem? (i := 23) rfl)), trivial⟩ ⟨fun a U g mk q => by obtain ⟨q0, q1, q2, qK, q10, q11, q12, q13⟩ := q; exact ⟨q0, q1, q2, jG.calling g mk a qK, q10, q11, q12, q13⟩, fun U hU hW => ⟨rfl, hU, hh_8.2.1, hG.step hW hU hh_8.1, hg_r1, jP.nil, (hh_8.2.2.2.2.2.2.2.1.sub (L1 := [(r1, 101, n1, ca 1, f1)]) [0] rfl), by first | omega | (refine ⟨?_, ?_, ?_, ?_⟩ <;> (first | omega | rfl | assumption | decide | exact Or.inl rfl | exact Or.inr rfl | (simp only; omega)))⟩⟩ rfl rfl hl.1 rfl (lv_room (Nat.le_of_ble_eq_true rfl)) dX13_scan_53 ⟨Nat.zero_le _, Nat.zero_le _⟩) hh_8.1 (fun q _ h => h) (fun q h => h) (fun r_87 u_86 t_86 H_86 locs_86 ht_86 hvm_86 hr_87 hb_86 hz_86 hk_86 hS_86 => ?_)
            rw [ht_86] at hb_86
            obtain ⟨hb_861, hb_862, hb_863, hb_864, hb_865⟩ := hb_86
            have hh_86 : jSt (dC, dI) B base G0 G0 EX13_scan s.heap 0 0 [(r0, 15, 30, .int wk_3), (r0, 15, 10, .int wc_3), (r0, 15, 7, .int ws_3)] [(r1, 101, n1, ca 1, f1)] [] H_86 locs_86 := ((hh_8.call hb_861 hb_862 hb_863 hb_864 hS_86 rfl (L1 := [(r0, 15, 30, .int wk_3), (r0, 15, 10, .int wc_3), (r0, 15, 7, .int ws_3)]) [0, 1, 2] rfl rfl (M1 := [(r1, 101, n1, ca 1, f1)]) [0] rfl rfl (I1 := []) [] rfl rfl).more hb_865)
            clear hh_8 ht_86 hvm_86 hz_86 hk_86 hS_86 hb_861 hb_862 hb_863 hb_864 hb_865
            obtain ⟨hr_87_0, hr_87_1, hr_87_2, hr_87_3⟩ := hr_87
            refine lv_istore (lv' := [(6, .int r_87), (5, .int z_5), (0, .ref r0), (1, .ref r1), (2, .int a2), (3, .int a3), (4, .int v4_3)]) hx hb dX13_scan_56 hl (by decide) rfl (fun ls hl => ?_)
            refine lv_iload hx hb dX13_scan_58 (lv_at hl 0 rfl) ?_
            refine lv_if_ge (tgt := 67) hx hb dX13_scan_60 (by decide) (fun c_88 => ?_) (fun c_88 => ?_)
            · skip
              have c_88' : r_87.toInt ≥ 0 := jb_ge (rfl) ((by decide)) c_88
              first | (have hr_87_3q := hr_87_3.resolve_left (by omega); clear hr_87_3) | (have hr_87_3q := hr_87_3.resolve_right (by omega); clear hr_87_3) | skip
              refine lv_iload hx hb dX13_scan_67 (lv_at hl 0 rfl) ?_
              refine lv_istore (lv' := [(4, .int r_87), (6, .int r_87), (5, .int z_5), (0, .ref r0), (1, .ref r1), (2, .int a2), (3, .int a3)]) hx hb dX13_scan_69 hl (by decide) rfl (fun ls hl => ?_)
              refine lv_goto (tgt := 325) hx hb dX13_scan_71 (by decide) ?_
              refine lv_goto (tgt := 13) hx hb dX13_scan_325 (by decide) ?_
              exact L13 r_87 wk_3 wc_3 ws_3 _ _ hh_86 (by first | omega | (refine ⟨?_, ?_, ?_, ?_, ?_, ?_, ?_, ?_⟩ <;> (first | omega | rfl | assumption | decide | exact Or.inl rfl | exact Or.inr rfl | (simp only; omega)))) (by omega) _ (lv_sub hl [3, 4, 5, 6, 0] rfl)
            · skip
              have c_88' : r_87.toInt < 0 := jb_ge_n (rfl) ((by decide)) c_88
              first | (have hr_87_3q := hr_87_3.resolve_left (by omega); clear hr_87_3) | (have hr_87_3q := hr_87_3.resolve_right (by omega); clear hr_87_3) | skip
              refine lv_iload_n hx hb dX13_scan_63 rfl (lv_at hl 5 rfl) ?_
              refine lv_goto (tgt := 69) hx hb dX13_scan_64 (by decide) ?_
              refine lv_istore (lv' := [(4, .int a3), (6, .int r_87), (5, .int z_5), (0, .ref r0), (1, .ref r1), (2, .int a2), (3, .int a3)]) hx hb dX13_scan_69 hl (by decide) rfl (fun ls hl => ?_)
              refine lv_goto (tgt := 325) hx hb dX13_scan_71 (by decide) ?_
              refine lv_goto (tgt := 13) hx hb dX13_scan_325 (by decide) ?_
              exact L13 a3 wk_3 wc_3 ws_3 _ _ hh_86 (by first | omega | (refine ⟨?_, ?_, ?_, ?_, ?_, ?_, ?_, ?_⟩ <;> (first | omega | rfl | assumption | decide | exact Or.inl rfl | exact Or.inr rfl | (simp only; omega)))) (by omega) _ (lv_sub hl [3, 4, 5, 6, 0] rfl)
        · skip
          have c_7' : r_6.toInt ≠ 0 := jb_eq_n (rfl) ((by decide)) c_7
          obtain ⟨z_89, ez_89⟩ : ∃ y : Int32, y = v4_3 + 1 := ⟨_, rfl⟩
          refine lv_iinc (v := z_89) (lv' := [(4, .int z_89), (5, .int z_5), (0, .ref r0), (1, .ref r1), (2, .int a2), (3, .int a3)]) hx hb dX13_scan_33 hl (k := 5) rfl (by rw [ez_89]; rfl) (by decide) rfl (fun ls hl => ?_)
          have hz_89 : z_89.toInt = v4_3.toInt + 1 := by rw [ez_89]; exact jb_iadd2 (rfl) (by decide) (by omega)
          refine lv_goto (tgt := 325) hx hb dX13_scan_36 (by decide) ?_
          refine lv_goto (tgt := 13) hx hb dX13_scan_325 (by decide) ?_
          exact L13 z_89 wk_3 wc_3 ws_3 _ _ hh_3 (by first | omega | (refine ⟨?_, ?_, ?_, ?_, ?_, ?_, ?_, ?_⟩ <;> (first | omega | rfl | assumption | decide | exact Or.inl rfl | exact Or.inr rfl | (simp only; omega)))) (by omega) _ (lv_sub hl [2, 3, 4, 5, 0] rfl)
  exact L13 (a3.toInt - (a2 : Int32).toInt : Int).toNat.succ a2 0 pc ps _ _ (hh_2.sub (L1 := [(r0, 15, 30, .int 0), (r0, 15, 10, .int pc), (r0, 15, 7, .int ps)]) [1, 2, 3] rfl (M1 := [(r1, 101, n1, ca 1, f1)]) [0] rfl (I1 := []) [] rfl) (by first | omega | (refine ⟨?_, ?_, ?_, ?_, ?_, ?_, ?_, ?_⟩ <;> (first | omega | rfl | assumption | decide | exact Or.inl rfl | exact Or.inr rfl | (simp only; omega)))) (by omega) _ (lv_sub hl [1, 2, 3, 4, 0] rfl)
set_option maxHeartbeats 4000000 in
set_option maxRecDepth 20000 in
theorem uX13_cost (l : Launch) (dC : Nat → ClassId) (dI : Nat → Nat → Nat) (ca : Nat → ClassId) (base : Nat) (B : jF) (hB : jBok B) (hAp : jAp (dC, dI)) (hB15 : ∀ n G a H, B 15 n G a H ↔ jOb (dC, dI) 15 50 (F15 n G) a H) (hB101 : ∀ n G a H, B 101 n G a H ↔ jAr (dC, dI) (ca 1) (fun j z => True) n a H) (hB155 : ∀ n G a H, B 155 n G a H ↔ jAr (dC, dI) (ca 1) (fun j z => 0 ≤ z.toInt ∧ z.toInt ≤ 11990) n a H) (hB156 : ∀ n G a H, B 156 n G a H ↔ jAr (dC, dI) (ca 1) (fun j z => 0 ≤ z.toInt ∧ z.toInt ≤ 10) n a H) (hB157 : ∀ n G a H, B 157 n G a H ↔ jAr (dC, dI) (ca 1) (fun j z => 0 ≤ z.toInt ∧ z.toInt ≤ 1599) n a H) (hB166 : ∀ n G a H, B 166 n G a H ↔ jAr (dC, dI) (ca 1) (fun j z => True) n a H) (hB167 : ∀ n G a H, B 167 n G a H ↔ jAr (dC, dI) (ca 1) (fun j z => True) n a H) (G0 : jT) (H0 : Heap) (r0 : Nat) (r1 : Nat) (a2 : Int32) (a3 : Int32) (a4 : Int32) (n1 : Nat) (pc : Int32) (ps : Int32) : Met l yX13_cost (jw yX13_cost cX13_cost 7 (some .int)) ({ frames := 4, cells := 0, slots := 0, locals := 88 }) (va_Pc [.ref r0, .ref r1, .int a2, .int a3, .int a4] (fun U => U.heap = H0 ∧ jX B base G0 [] H0 ∧ jG dC dI ca base U ∧ G0 r1 = some (101, n1) ∧ G0 r0 = some (15, 0) ∧ jP (dC, dI) G0 H0 [(r0, 15, 10, .int pc), (r0, 15, 7, .int ps)] ∧ 0 ≤ a2.toInt ∧ a2.toInt ≤ a3.toInt ∧ a3.toInt ≤ n1 ∧ n1 ≤ 1500 ∧ 0 ≤ pc.toInt ∧ pc.toInt + (a3.toInt - a2.toInt) ≤ 1599 ∧ 0 ≤ ps.toInt ∧ ps.toInt + (a3.toInt - a2.toInt) ≤ 11990)) (va_Qi (S := Unit) (fun r u => (True)) (fun u t => jRt (dC, dI) B base G0 EX13_cost H0 [] t.heap) (jA base)) 0 0 (jA base) := by
  refine Met.ofW (cc := cX13_cost) (maxL := 7) (ret := (some .int)) (by decide) rfl ?_
  intro p e s m args below meth c s₁ Bd hml hv
  obtain ⟨rfl, hH0, hX, hG, hg_r1, hg_r0, hP0, hp0, hp1, hp2, hp3, hp4, hp5, hp6, hp7⟩ := hv
  have hK := hG.1
  have hx := Bd.exec
  have hb := Bd.bytes
  have hr := Bd.returns
  have hts := atoms_spec (ws := (jw yX13_cost cX13_cost 7 (some .int))) Bd.pre
  have htw : ∀ w ∈ jWl, w.before _ s = true := fun w h => hts w (List.mem_cons_of_mem _ h)
  have hown : s.vm.findClass RX13 = some m.cls := findClass_of_methodNamed Bd.named
  have hlocks := Bd.notSynchronized
  obtain ⟨Q, hQ⟩ : ∃ Q, Q = MQ below (va_Qi (S := Unit) (fun r u => (True)) (fun u t => jRt (dC, dI) B base G0 EX13_cost H0 [] t.heap) (jA base)) ([.ref r0, .ref r1, .int a2, .int a3, .int a4] : List Value).toArray s 0 0 (jA base) := ⟨_, rfl⟩
  rw [← hQ]
  have hl := lv_entry ([.ref r0, .ref r1, .int a2, .int a3, .int a4]) (n := 7) (Nat.le_of_ble_eq_true rfl)
  rw [lg_entry_eq]
  generalize (lg_sl ([.ref r0, .ref r1, .int a2, .int a3, .int a4]) ++ List.replicate (7 - (lg_sl ([.ref r0, .ref r1, .int a2, .int a3, .int a4])).length) Slot.unset).toArray = ls at hl ⊢
  have hl : lv_has ls 7 [(0, .ref r0), (1, .ref r1), (2, .int a2), (3, .int a3), (4, .int a4)] := hl
  generalize hR : (headSpec (jw yX13_cost cX13_cost 7 (some .int)) ({ frames := 4, cells := 0, slots := 0, locals := 88 })).room = R
  subst hH0
  have hh : jSt (dC, dI) B base G0 G0 EX13_cost s.heap 0 0 [(r0, 15, 10, .int pc), (r0, 15, 7, .int ps)] [] [] s.heap [] := jSt.start hX hP0 jMc.nil jIs.nil
  clear hX hP0
  have hk0 : (0 : Int32).toInt = 0 := by decide
  have hk1 : (1 : Int32).toInt = 1 := by decide
  have hk3 : (3 : Int32).toInt = 3 := by decide
  have hk4 : (4 : Int32).toInt = 4 := by decide
  have hly_15_7 := htw (u_lay RX13 TX13 7) (jWc_wsX130 _ (u_in_lay (by decide)))
  have hly_15_10 := htw (u_lay RX13 TX13 10) (jWc_wsX130 _ (u_in_lay (by decide)))
  have hly_15_30 := htw (u_lay RX13 TX13 30) (jWc_wsX130 _ (u_in_lay (by decide)))
  have hly_15_31 := htw (u_lay RX13 TX13 31) (jWc_wsX130 _ (u_in_lay (by decide)))
  have hlk_103 := (htw (.fieldLink RX13 103 "ProofServerModel$Kernel" "nameCount" "I") (jWr_59 _ (List.mem_of_getElem? (i := 15) rfl)))
  have hlk_106 := (htw (.fieldLink RX13 106 "ProofServerModel$Kernel" "signCount" "I") (jWr_59 _ (List.mem_of_getElem? (i := 16) rfl)))
  have hlk_140 := (htw (.fieldLink RX13 140 "ProofServerModel$Kernel" "tokens" "I") (jWr_60 _ (List.mem_of_getElem? (i := 9) rfl)))
  have hlk_143 := (htw (.fieldLink RX13 143 "ProofServerModel$Kernel" "loose" "I") (jWr_60 _ (List.mem_of_getElem? (i := 1) rfl)))
  have hrg_a2 := jb_rng a2
  have hrg_a3 := jb_rng a3
  have hrg_a4 := jb_rng a4
  refine lv_iload hx hb dX13_cost_0 (lv_at hl 4 rfl) ?_
  refine lv_if_le (tgt := 7) hx hb dX13_cost_2 (by decide) (fun c_1 => ?_) (fun c_1 => ?_)
  · skip
    have c_1' : a4.toInt ≤ 0 := jb_le (rfl) ((by decide)) c_1
    refine lv_aload_n hx hb dX13_cost_7 rfl (lv_at hl 0 rfl) ?_
    refine j7_read hx hb hown hK (C := RX13) (T := TX13) (N := 50) rfl hly_15_10 hlk_103 (hh.at 0 rfl) dX13_cost_8 ?_
    refine lv_istore (lv' := [(5, .int pc), (0, .ref r0), (1, .ref r1), (2, .int a2), (3, .int a3), (4, .int a4)]) hx hb dX13_cost_11 hl (by decide) rfl (fun ls hl => ?_)
    refine lv_aload_n hx hb dX13_cost_13 rfl (lv_at hl 1 rfl) ?_
    refine j7_read hx hb hown hK (C := RX13) (T := TX13) (N := 50) rfl hly_15_7 hlk_106 (hh.at 1 rfl) dX13_cost_14 ?_
    refine lv_istore (lv' := [(6, .int ps), (5, .int pc), (0, .ref r0), (1, .ref r1), (2, .int a2), (3, .int a3), (4, .int a4)]) hx hb dX13_cost_17 hl (by decide) rfl (fun ls hl => ?_)
    refine lv_aload_n hx hb dX13_cost_19 rfl (lv_at hl 2 rfl) ?_
    refine lv_aload_n hx hb dX13_cost_20 rfl (lv_at hl 3 rfl) ?_
    refine lv_iload_n hx hb dX13_cost_21 rfl (lv_at hl 4 rfl) ?_
    refine lv_iload_n hx hb dX13_cost_22 rfl (lv_at hl 5 rfl) ?_
    obtain ⟨f_f1_4, hh_4⟩ := hh.cpin hB101 (by decide) (by decide) hg_r1
    clear hh
    refine va_callv (A0 := jA base) (H0 := s.heap) (va_runV (As := [.ref r1, .int a2, .int a3]) (rest := []) ⟨hx, hb, hml, hown, hts⟩ (uX13_scan l dC dI ca base B hB hAp hB15 hB101 hB155 hB156 hB157 hB166 hB167 G0 s.heap r0 r1 a2 a3 n1 pc ps f_f1_4) (cwV 3 hts (jgV (jWr_60 _ (List.mem_of_getElem? (i := 5) rfl)) (jWr_60 _ (List.mem_of_getElem? (i := 6) rfl)) (jWr_60 _ (List.mem_of_getElem? (i := 7) rfl)) (jWr_12 _ (List.mem_of_getElem? (i := 12) rfl)) (jWr_60 _ (List.mem_of_getElem? (i := 8) rfl))) rfl rfl rfl (by decide +kernel) ⟨by rw [← hR]; exact Nat.le_of_ble_eq_true rfl, by rw [← hR]; exact Nat.le_of_ble_eq_true rfl⟩) ⟨fun a U g mk q => by obtain ⟨q0, q1, q2, qK, q10, q11, q12, q13, q14⟩ := q; exact ⟨q0, q1, q2, jG.calling g mk a qK, q10, q11, q12, q13, q14⟩, hh_4.recv (C := RX13) (T := TX13) (N := 50) hB15 rfl (by decide) hg_r0 hK, fun U hU hW => ⟨rfl, hU, hh_4.2.1, hG.step hW hU hh_4.1, hg_r1, hg_r0, (hh_4.2.2.1.sub (L1 := [(r0, 15, 10, .int pc), (r0, 15, 7, .int ps)]) [0, 1] rfl), (hh_4.2.2.2.2.2.2.2.1.sub (L1 := [(r1, 101, n1, ca 1, f_f1_4)]) [0] rfl), by first | omega | (refine ⟨?_, ?_, ?_, ?_, ?_, ?_, ?_, ?_⟩ <;> (first | omega | rfl | assumption | decide | exact Or.inl rfl | exact Or.inr rfl | (simp only; omega)))⟩⟩ rfl rfl hl.1 rfl (lv_room (Nat.le_of_ble_eq_true rfl)) dX13_cost_23 ⟨Nat.zero_le _, Nat.zero_le _⟩) hh_4.1 (fun q _ h => h) (fun q h => h) (fun u_2 t_2 H_2 locs_2 ht_2 hvm_2 hr_3 hb_2 hz_2 hk_2 hS_2 => ?_)
    obtain ⟨qk_2, qc_2, qs_2⟩ := u_2
    rw [ht_2] at hb_2
    obtain ⟨hb_21, hb_22, hb_23, hb_24, hb_25⟩ := hb_2
    have hh_2 : jSt (dC, dI) B base G0 G0 EX13_cost s.heap 0 0 [(r0, 15, 30, .int qk_2), (r0, 15, 10, .int qc_2), (r0, 15, 7, .int qs_2)] [(r1, 101, n1, ca 1, f_f1_4)] [] H_2 locs_2 := ((hh_4.call hb_21 hb_22 hb_23 hb_24 hS_2 rfl (L1 := []) [] rfl rfl (M1 := [(r1, 101, n1, ca 1, f_f1_4)]) [0] rfl rfl (I1 := []) [] rfl rfl).more hb_25)
    clear hh_4 ht_2 hvm_2 hz_2 hk_2 hS_2 hb_21 hb_22 hb_23 hb_24 hb_25
    try simp only at hr_3
    obtain ⟨hr_3_0, hr_3_1, hr_3_2, hr_3_3, hr_3_4, hr_3_5⟩ := hr_3
    refine lv_aload_n hx hb dX13_cost_26 rfl (lv_at hl 2 rfl) ?_
    refine lv_iload hx hb dX13_cost_27 (lv_at hl 1 rfl) ?_
    refine j7_put hx hb hown hK hh_2 hB hAp hB15 (C := RX13) (T := TX13) (N := 50) rfl (by decide) hg_r0 (i := 10) (by decide) hly_15_10 rfl hlk_103 rfl (ty := .int) (v := .int pc) (by decide +kernel) rfl rfl (⟨_, rfl, by omega, by omega⟩) rfl (L1 := [(r0, 15, 30, .int qk_2), (r0, 15, 7, .int qs_2)]) [0, 2] rfl rfl rfl dX13_cost_29 (fun H_5 locs_5 hh_5 => ?_)
    clear hh_2
    refine lv_aload_n hx hb dX13_cost_32 rfl (lv_at hl 2 rfl) ?_
    refine lv_iload hx hb dX13_cost_33 (lv_at hl 0 rfl) ?_
    refine j7_put hx hb hown hK hh_5 hB hAp hB15 (C := RX13) (T := TX13) (N := 50) rfl (by decide) hg_r0 (i := 7) (by decide) hly_15_7 rfl hlk_106 rfl (ty := .int) (v := .int ps) (by decide +kernel) rfl rfl (⟨_, rfl, by omega, by omega⟩) rfl (L1 := [(r0, 15, 10, .int pc), (r0, 15, 30, .int qk_2)]) [0, 1] rfl rfl rfl dX13_cost_35 (fun H_6 locs_6 hh_6 => ?_)
    clear hh_5
    refine lv_iconst (v := 3) hx hb dX13_cost_38 (by decide) ?_
    refine lv_aload_n hx hb dX13_cost_39 rfl (lv_at hl 2 rfl) ?_
    refine j7_read hx hb hown hK (C := RX13) (T := TX13) (N := 50) rfl hly_15_30 hlk_140 (hh_6.at 2 rfl) dX13_cost_40 ?_
    refine lv_iadd hx hb dX13_cost_43 ?_
    refine lv_topi (fun z_7 ez_7 => ?_)
    refine lv_aload_n hx hb dX13_cost_44 rfl (lv_at hl 2 rfl) ?_
    obtain ⟨v_8, hv_8, hh_9⟩ := hh_6.pin (C := RX13) (T := TX13) (N := 50) hB15 rfl (by decide) hg_r0 (i := 31) (by decide) rfl
    clear hh_6
    obtain ⟨loose_10, rfl⟩ := hv_8
    refine j7_read hx hb hown hK (C := RX13) (T := TX13) (N := 50) rfl hly_15_31 hlk_143 (hh_9.at 0 rfl) dX13_cost_45 ?_
    refine lv_iadd hx hb dX13_cost_48 ?_
    refine lv_topi (fun z_11 ez_11 => ?_)
    rw [hQ]
    exact W.iret (v := z_11) hx hb hr (fun t ht hW => ⟨⟨z_11, (), rfl, trivial, hh_9.rt (M1 := []) [] rfl ht⟩, by rw [ht]; try exact hh_9.1.1, fun q h9 hq => by rw [ht]; try exact hh_9.1.2.1 q h9 hq⟩) hh_9.1.2.2 dX13_cost_49
  · skip
    have c_1' : a4.toInt > 0 := jb_le_n (rfl) ((by decide)) c_1
    refine lv_iconst (v := 4) hx hb dX13_cost_5 (by decide) ?_
    rw [hQ]
    exact W.iret (v := 4) hx hb hr (fun t ht hW => ⟨⟨4, (), rfl, trivial, hh.rt (M1 := []) [] rfl ht⟩, by rw [ht]; try exact hh.1.1, fun q h9 hq => by rw [ht]; try exact hh.1.2.1 q h9 hq⟩) hh.1.2.2 dX13_cost_6
