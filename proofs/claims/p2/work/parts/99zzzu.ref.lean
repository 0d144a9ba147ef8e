theorem dX14_init_0 : decode cX14_init 0 = .ok (.aload_n 0, 1) := by decide +kernel
theorem dX14_init_1 : decode cX14_init 1 = .ok (.invokespecial 1, 3) := by decide +kernel
theorem dX14_init_4 : decode cX14_init 4 = .ok (.aload_n 0, 1) := by decide +kernel
theorem dX14_init_5 : decode cX14_init 5 = .ok (.sipush 4000, 3) := by decide +kernel
theorem dX14_init_8 : decode cX14_init 8 = .ok (.newarray .int, 2) := by decide +kernel
theorem dX14_init_10 : decode cX14_init 10 = .ok (.putfield 9, 3) := by decide +kernel
theorem dX14_init_13 : decode cX14_init 13 = .ok (.aload_n 0, 1) := by decide +kernel
theorem dX14_init_14 : decode cX14_init 14 = .ok (.sipush 20000, 3) := by decide +kernel
theorem dX14_init_17 : decode cX14_init 17 = .ok (.newarray .int, 2) := by decide +kernel
theorem dX14_init_19 : decode cX14_init 19 = .ok (.putfield 13, 3) := by decide +kernel
theorem dX14_init_22 : decode cX14_init 22 = .ok (.aload_n 0, 1) := by decide +kernel
theorem dX14_init_23 : decode cX14_init 23 = .ok (.ldc 16, 2) := by decide +kernel
theorem dX14_init_25 : decode cX14_init 25 = .ok (.newarray .int, 2) := by decide +kernel
theorem dX14_init_27 : decode cX14_init 27 = .ok (.putfield 17, 3) := by decide +kernel
theorem dX14_init_30 : decode cX14_init 30 = .ok (.aload_n 0, 1) := by decide +kernel
theorem dX14_init_31 : decode cX14_init 31 = .ok (.sipush 3300, 3) := by decide +kernel
theorem dX14_init_34 : decode cX14_init 34 = .ok (.newarray .int, 2) := by decide +kernel
theorem dX14_init_36 : decode cX14_init 36 = .ok (.putfield 20, 3) := by decide +kernel
theorem dX14_init_39 : decode cX14_init 39 = .ok (.aload_n 0, 1) := by decide +kernel
theorem dX14_init_40 : decode cX14_init 40 = .ok (.new 23, 3) := by decide +kernel
theorem dX14_init_43 : decode cX14_init 43 = .ok (.dup, 1) := by decide +kernel
theorem dX14_init_44 : decode cX14_init 44 = .ok (.invokespecial 25, 3) := by decide +kernel
theorem dX14_init_47 : decode cX14_init 47 = .ok (.putfield 26, 3) := by decide +kernel
theorem dX14_init_50 : decode cX14_init 50 = .ok (.aload_n 0, 1) := by decide +kernel
theorem dX14_init_51 : decode cX14_init 51 = .ok (.new 23, 3) := by decide +kernel
theorem dX14_init_54 : decode cX14_init 54 = .ok (.dup, 1) := by decide +kernel
theorem dX14_init_55 : decode cX14_init 55 = .ok (.invokespecial 25, 3) := by decide +kernel
theorem dX14_init_58 : decode cX14_init 58 = .ok (.putfield 30, 3) := by decide +kernel
theorem dX14_init_61 : decode cX14_init 61 = .ok (.aload_n 0, 1) := by decide +kernel
theorem dX14_init_62 : decode cX14_init 62 = .ok (.iconst (-1), 1) := by decide +kernel
theorem dX14_init_63 : decode cX14_init 63 = .ok (.putfield 33, 3) := by decide +kernel
theorem dX14_init_66 : decode cX14_init 66 = .ok (.aload_n 0, 1) := by decide +kernel
theorem dX14_init_67 : decode cX14_init 67 = .ok (.sipush 3100, 3) := by decide +kernel
theorem dX14_init_70 : decode cX14_init 70 = .ok (.newarray .int, 2) := by decide +kernel
theorem dX14_init_72 : decode cX14_init 72 = .ok (.putfield 37, 3) := by decide +kernel
theorem dX14_init_75 : decode cX14_init 75 = .ok (.aload_n 0, 1) := by decide +kernel
theorem dX14_init_76 : decode cX14_init 76 = .ok (.sipush 3100, 3) := by decide +kernel
theorem dX14_init_79 : decode cX14_init 79 = .ok (.newarray .int, 2) := by decide +kernel
theorem dX14_init_81 : decode cX14_init 81 = .ok (.putfield 40, 3) := by decide +kernel
theorem dX14_init_84 : decode cX14_init 84 = .ok (.aload_n 0, 1) := by decide +kernel
theorem dX14_init_85 : decode cX14_init 85 = .ok (.sipush 3100, 3) := by decide +kernel
theorem dX14_init_88 : decode cX14_init 88 = .ok (.newarray .int, 2) := by decide +kernel
theorem dX14_init_90 : decode cX14_init 90 = .ok (.putfield 43, 3) := by decide +kernel
theorem dX14_init_93 : decode cX14_init 93 = .ok (.aload_n 0, 1) := by decide +kernel
theorem dX14_init_94 : decode cX14_init 94 = .ok (.sipush 3100, 3) := by decide +kernel
theorem dX14_init_97 : decode cX14_init 97 = .ok (.newarray .int, 2) := by decide +kernel
theorem dX14_init_99 : decode cX14_init 99 = .ok (.putfield 46, 3) := by decide +kernel
theorem dX14_init_102 : decode cX14_init 102 = .ok (.aload_n 0, 1) := by decide +kernel
theorem dX14_init_103 : decode cX14_init 103 = .ok (.sipush 3100, 3) := by decide +kernel
theorem dX14_init_106 : decode cX14_init 106 = .ok (.newarray .int, 2) := by decide +kernel
theorem dX14_init_108 : decode cX14_init 108 = .ok (.putfield 49, 3) := by decide +kernel
theorem dX14_init_111 : decode cX14_init 111 = .ok (.aload_n 0, 1) := by decide +kernel
theorem dX14_init_112 : decode cX14_init 112 = .ok (.sipush 3100, 3) := by decide +kernel
theorem dX14_init_115 : decode cX14_init 115 = .ok (.newarray .int, 2) := by decide +kernel
theorem dX14_init_117 : decode cX14_init 117 = .ok (.putfield 52, 3) := by decide +kernel
theorem dX14_init_120 : decode cX14_init 120 = .ok (.aload_n 0, 1) := by decide +kernel
theorem dX14_init_121 : decode cX14_init 121 = .ok (.sipush 3100, 3) := by decide +kernel
theorem dX14_init_124 : decode cX14_init 124 = .ok (.newarray .int, 2) := by decide +kernel
theorem dX14_init_126 : decode cX14_init 126 = .ok (.putfield 55, 3) := by decide +kernel
theorem dX14_init_129 : decode cX14_init 129 = .ok (.aload_n 0, 1) := by decide +kernel
theorem dX14_init_130 : decode cX14_init 130 = .ok (.sipush 3100, 3) := by decide +kernel
theorem dX14_init_133 : decode cX14_init 133 = .ok (.newarray .boolean, 2) := by decide +kernel
theorem dX14_init_135 : decode cX14_init 135 = .ok (.putfield 58, 3) := by decide +kernel
theorem dX14_init_138 : decode cX14_init 138 = .ok (.aload_n 0, 1) := by decide +kernel
theorem dX14_init_139 : decode cX14_init 139 = .ok (.sipush 3100, 3) := by decide +kernel
theorem dX14_init_142 : decode cX14_init 142 = .ok (.newarray .int, 2) := by decide +kernel
theorem dX14_init_144 : decode cX14_init 144 = .ok (.putfield 62, 3) := by decide +kernel
theorem dX14_init_147 : decode cX14_init 147 = .ok (.aload_n 0, 1) := by decide +kernel
theorem dX14_init_148 : decode cX14_init 148 = .ok (.sipush 3300, 3) := by decide +kernel
theorem dX14_init_151 : decode cX14_init 151 = .ok (.newarray .int, 2) := by decide +kernel
theorem dX14_init_153 : decode cX14_init 153 = .ok (.putfield 65, 3) := by decide +kernel
theorem dX14_init_156 : decode cX14_init 156 = .ok (.aload_n 0, 1) := by decide +kernel
theorem dX14_init_157 : decode cX14_init 157 = .ok (.bipush 20, 2) := by decide +kernel
theorem dX14_init_159 : decode cX14_init 159 = .ok (.newarray .int, 2) := by decide +kernel
theorem dX14_init_161 : decode cX14_init 161 = .ok (.putfield 68, 3) := by decide +kernel
theorem dX14_init_164 : decode cX14_init 164 = .ok (.aload_n 0, 1) := by decide +kernel
theorem dX14_init_165 : decode cX14_init 165 = .ok (.iconst 3, 1) := by decide +kernel
theorem dX14_init_166 : decode cX14_init 166 = .ok (.anewarray 71, 3) := by decide +kernel
theorem dX14_init_169 : decode cX14_init 169 = .ok (.dup, 1) := by decide +kernel
theorem dX14_init_170 : decode cX14_init 170 = .ok (.iconst 0, 1) := by decide +kernel
theorem dX14_init_171 : decode cX14_init 171 = .ok (.new 71, 3) := by decide +kernel
theorem dX14_init_174 : decode cX14_init 174 = .ok (.dup, 1) := by decide +kernel
theorem dX14_init_175 : decode cX14_init 175 = .ok (.invokespecial 73, 3) := by decide +kernel
theorem dX14_init_178 : decode cX14_init 178 = .ok (.aastore, 1) := by decide +kernel
theorem dX14_init_179 : decode cX14_init 179 = .ok (.dup, 1) := by decide +kernel
theorem dX14_init_180 : decode cX14_init 180 = .ok (.iconst 1, 1) := by decide +kernel
theorem dX14_init_181 : decode cX14_init 181 = .ok (.new 71, 3) := by decide +kernel
theorem dX14_init_184 : decode cX14_init 184 = .ok (.dup, 1) := by decide +kernel
theorem dX14_init_185 : decode cX14_init 185 = .ok (.invokespecial 73, 3) := by decide +kernel
theorem dX14_init_188 : decode cX14_init 188 = .ok (.aastore, 1) := by decide +kernel
theorem dX14_init_189 : decode cX14_init 189 = .ok (.dup, 1) := by decide +kernel
theorem dX14_init_190 : decode cX14_init 190 = .ok (.iconst 2, 1) := by decide +kernel
theorem dX14_init_191 : decode cX14_init 191 = .ok (.new 71, 3) := by decide +kernel
theorem dX14_init_194 : decode cX14_init 194 = .ok (.dup, 1) := by decide +kernel
theorem dX14_init_195 : decode cX14_init 195 = .ok (.invokespecial 73, 3) := by decide +kernel
theorem dX14_init_198 : decode cX14_init 198 = .ok (.aastore, 1) := by decide +kernel
theorem dX14_init_199 : decode cX14_init 199 = .ok (.putfield 74, 3) := by decide +kernel
theorem dX14_init_202 : decode cX14_init 202 = .ok (.aload_n 0, 1) := by decide +kernel
theorem dX14_init_203 : decode cX14_init 203 = .ok (.sipush 3100, 3) := by decide +kernel
theorem dX14_init_206 : decode cX14_init 206 = .ok (.newarray .int, 2) := by decide +kernel
theorem dX14_init_208 : decode cX14_init 208 = .ok (.putfield 78, 3) := by decide +kernel
theorem dX14_init_211 : decode cX14_init 211 = .ok (.aload_n 0, 1) := by decide +kernel
theorem dX14_init_212 : decode cX14_init 212 = .ok (.sipush 1500, 3) := by decide +kernel
theorem dX14_init_215 : decode cX14_init 215 = .ok (.newarray .int, 2) := by decide +kernel
theorem dX14_init_217 : decode cX14_init 217 = .ok (.putfield 81, 3) := by decide +kernel
theorem dX14_init_220 : decode cX14_init 220 = .ok (.aload_n 0, 1) := by decide +kernel
theorem dX14_init_221 : decode cX14_init 221 = .ok (.new 71, 3) := by decide +kernel
theorem dX14_init_224 : decode cX14_init 224 = .ok (.dup, 1) := by decide +kernel
theorem dX14_init_225 : decode cX14_init 225 = .ok (.invokespecial 73, 3) := by decide +kernel
theorem dX14_init_228 : decode cX14_init 228 = .ok (.putfield 84, 3) := by decide +kernel
theorem dX14_init_231 : decode cX14_init 231 = .ok (.aload_n 0, 1) := by decide +kernel
theorem dX14_init_232 : decode cX14_init 232 = .ok (.new 71, 3) := by decide +kernel
theorem dX14_init_235 : decode cX14_init 235 = .ok (.dup, 1) := by decide +kernel
theorem dX14_init_236 : decode cX14_init 236 = .ok (.invokespecial 73, 3) := by decide +kernel
theorem dX14_init_239 : decode cX14_init 239 = .ok (.putfield 88, 3) := by decide +kernel
theorem dX14_init_242 : decode cX14_init 242 = .ok (.aload_n 0, 1) := by decide +kernel
theorem dX14_init_243 : decode cX14_init 243 = .ok (.bipush 12, 2) := by decide +kernel
theorem dX14_init_245 : decode cX14_init 245 = .ok (.anewarray 71, 3) := by decide +kernel
theorem dX14_init_248 : decode cX14_init 248 = .ok (.putfield 91, 3) := by decide +kernel
theorem dX14_init_251 : decode cX14_init 251 = .ok (.aload_n 0, 1) := by decide +kernel
theorem dX14_init_252 : decode cX14_init 252 = .ok (.bipush 12, 2) := by decide +kernel
theorem dX14_init_254 : decode cX14_init 254 = .ok (.newarray .boolean, 2) := by decide +kernel
theorem dX14_init_256 : decode cX14_init 256 = .ok (.putfield 94, 3) := by decide +kernel
theorem dX14_init_259 : decode cX14_init 259 = .ok (.aload_n 0, 1) := by decide +kernel
theorem dX14_init_260 : decode cX14_init 260 = .ok (.bipush 12, 2) := by decide +kernel
theorem dX14_init_262 : decode cX14_init 262 = .ok (.newarray .int, 2) := by decide +kernel
theorem dX14_init_264 : decode cX14_init 264 = .ok (.putfield 97, 3) := by decide +kernel
theorem dX14_init_267 : decode cX14_init 267 = .ok (.aload_n 0, 1) := by decide +kernel
theorem dX14_init_268 : decode cX14_init 268 = .ok (.bipush 12, 2) := by decide +kernel
theorem dX14_init_270 : decode cX14_init 270 = .ok (.newarray .boolean, 2) := by decide +kernel
theorem dX14_init_272 : decode cX14_init 272 = .ok (.putfield 100, 3) := by decide +kernel
theorem dX14_init_275 : decode cX14_init 275 = .ok (.aload_n 0, 1) := by decide +kernel
theorem dX14_init_276 : decode cX14_init 276 = .ok (.bipush 12, 2) := by decide +kernel
theorem dX14_init_278 : decode cX14_init 278 = .ok (.newarray .int, 2) := by decide +kernel
theorem dX14_init_280 : decode cX14_init 280 = .ok (.putfield 103, 3) := by decide +kernel
theorem dX14_init_283 : decode cX14_init 283 = .ok (.aload_n 0, 1) := by decide +kernel
theorem dX14_init_284 : decode cX14_init 284 = .ok (.sipush 240, 3) := by decide +kernel
theorem dX14_init_287 : decode cX14_init 287 = .ok (.newarray .int, 2) := by decide +kernel
theorem dX14_init_289 : decode cX14_init 289 = .ok (.putfield 106, 3) := by decide +kernel
theorem dX14_init_292 : decode cX14_init 292 = .ok (.aload_n 0, 1) := by decide +kernel
theorem dX14_init_293 : decode cX14_init 293 = .ok (.bipush 12, 2) := by decide +kernel
theorem dX14_init_295 : decode cX14_init 295 = .ok (.newarray .int, 2) := by decide +kernel
theorem dX14_init_297 : decode cX14_init 297 = .ok (.putfield 109, 3) := by decide +kernel
theorem dX14_init_300 : decode cX14_init 300 = .ok (.aload_n 0, 1) := by decide +kernel
theorem dX14_init_301 : decode cX14_init 301 = .ok (.ldc 112, 2) := by decide +kernel
theorem dX14_init_303 : decode cX14_init 303 = .ok (.newarray .int, 2) := by decide +kernel
theorem dX14_init_305 : decode cX14_init 305 = .ok (.putfield 113, 3) := by decide +kernel
theorem dX14_init_308 : decode cX14_init 308 = .ok (.aload_n 0, 1) := by decide +kernel
theorem dX14_init_309 : decode cX14_init 309 = .ok (.bipush 12, 2) := by decide +kernel
theorem dX14_init_311 : decode cX14_init 311 = .ok (.newarray .int, 2) := by decide +kernel
theorem dX14_init_313 : decode cX14_init 313 = .ok (.putfield 116, 3) := by decide +kernel
theorem dX14_init_316 : decode cX14_init 316 = .ok (.aload_n 0, 1) := by decide +kernel
theorem dX14_init_317 : decode cX14_init 317 = .ok (.new 119, 3) := by decide +kernel
theorem dX14_init_320 : decode cX14_init 320 = .ok (.dup, 1) := by decide +kernel
theorem dX14_init_321 : decode cX14_init 321 = .ok (.invokespecial 121, 3) := by decide +kernel
theorem dX14_init_324 : decode cX14_init 324 = .ok (.putfield 122, 3) := by decide +kernel
theorem dX14_init_327 : decode cX14_init 327 = .ok (.aload_n 0, 1) := by decide +kernel
theorem dX14_init_328 : decode cX14_init 328 = .ok (.sipush 3100, 3) := by decide +kernel
theorem dX14_init_331 : decode cX14_init 331 = .ok (.newarray .int, 2) := by decide +kernel
theorem dX14_init_333 : decode cX14_init 333 = .ok (.putfield 126, 3) := by decide +kernel
theorem dX14_init_336 : decode cX14_init 336 = .ok (.aload_n 0, 1) := by decide +kernel
theorem dX14_init_337 : decode cX14_init 337 = .ok (.iconst 2, 1) := by decide +kernel
theorem dX14_init_338 : decode cX14_init 338 = .ok (.anewarray 71, 3) := by decide +kernel
theorem dX14_init_341 : decode cX14_init 341 = .ok (.putfield 129, 3) := by decide +kernel
theorem dX14_init_344 : decode cX14_init 344 = .ok (.aload_n 0, 1) := by decide +kernel
theorem dX14_init_345 : decode cX14_init 345 = .ok (.iconst 2, 1) := by decide +kernel
theorem dX14_init_346 : decode cX14_init 346 = .ok (.newarray .int, 2) := by decide +kernel
theorem dX14_init_348 : decode cX14_init 348 = .ok (.putfield 132, 3) := by decide +kernel
theorem dX14_init_351 : decode cX14_init 351 = .ok (.aload_n 0, 1) := by decide +kernel
theorem dX14_init_352 : decode cX14_init 352 = .ok (.iconst 2, 1) := by decide +kernel
theorem dX14_init_353 : decode cX14_init 353 = .ok (.newarray .int, 2) := by decide +kernel
theorem dX14_init_355 : decode cX14_init 355 = .ok (.putfield 135, 3) := by decide +kernel
theorem dX14_init_358 : decode cX14_init 358 = .ok (.aload_n 0, 1) := by decide +kernel
theorem dX14_init_359 : decode cX14_init 359 = .ok (.iconst 2, 1) := by decide +kernel
theorem dX14_init_360 : decode cX14_init 360 = .ok (.newarray .boolean, 2) := by decide +kernel
theorem dX14_init_362 : decode cX14_init 362 = .ok (.putfield 138, 3) := by decide +kernel
theorem dX14_init_365 : decode cX14_init 365 = .ok (.aload_n 0, 1) := by decide +kernel
theorem dX14_init_366 : decode cX14_init 366 = .ok (.ldc 141, 2) := by decide +kernel
theorem dX14_init_368 : decode cX14_init 368 = .ok (.newarray .int, 2) := by decide +kernel
theorem dX14_init_370 : decode cX14_init 370 = .ok (.putfield 142, 3) := by decide +kernel
theorem dX14_init_373 : decode cX14_init 373 = .ok (.aload_n 0, 1) := by decide +kernel
theorem dX14_init_374 : decode cX14_init 374 = .ok (.bipush 24, 2) := by decide +kernel
theorem dX14_init_376 : decode cX14_init 376 = .ok (.newarray .int, 2) := by decide +kernel
theorem dX14_init_378 : decode cX14_init 378 = .ok (.putfield 145, 3) := by decide +kernel
theorem dX14_init_381 : decode cX14_init 381 = .ok (.aload_n 0, 1) := by decide +kernel
theorem dX14_init_382 : decode cX14_init 382 = .ok (.sipush 1600, 3) := by decide +kernel
theorem dX14_init_385 : decode cX14_init 385 = .ok (.newarray .int, 2) := by decide +kernel
theorem dX14_init_387 : decode cX14_init 387 = .ok (.putfield 148, 3) := by decide +kernel
theorem dX14_init_390 : decode cX14_init 390 = .ok (.aload_n 0, 1) := by decide +kernel
theorem dX14_init_391 : decode cX14_init 391 = .ok (.new 71, 3) := by decide +kernel
theorem dX14_init_394 : decode cX14_init 394 = .ok (.dup, 1) := by decide +kernel
theorem dX14_init_395 : decode cX14_init 395 = .ok (.invokespecial 73, 3) := by decide +kernel
theorem dX14_init_398 : decode cX14_init 398 = .ok (.putfield 151, 3) := by decide +kernel
theorem dX14_init_401 : decode cX14_init 401 = .ok (.aload_n 0, 1) := by decide +kernel
theorem dX14_init_402 : decode cX14_init 402 = .ok (.bipush 40, 2) := by decide +kernel
theorem dX14_init_404 : decode cX14_init 404 = .ok (.newarray .int, 2) := by decide +kernel
theorem dX14_init_406 : decode cX14_init 406 = .ok (.putfield 154, 3) := by decide +kernel
theorem dX14_init_409 : decode cX14_init 409 = .ok (.aload_n 0, 1) := by decide +kernel
theorem dX14_init_410 : decode cX14_init 410 = .ok (.bipush 40, 2) := by decide +kernel
theorem dX14_init_412 : decode cX14_init 412 = .ok (.newarray .int, 2) := by decide +kernel
theorem dX14_init_414 : decode cX14_init 414 = .ok (.putfield 157, 3) := by decide +kernel
theorem dX14_init_417 : decode cX14_init 417 = .ok (.return_, 1) := by decide +kernel
def EX14_init : List (Nat × Nat) := []
set_option maxHeartbeats 40000000 in
set_option maxRecDepth 20000 in
theorem uX14_init (l : Launch) (dC : Nat → ClassId) (dI : Nat → Nat → Nat) (ca : Nat → ClassId) (base : Nat) (B : jF) (hB : jBok B) (hAp : jAp (dC, dI)) (hB0 : ∀ n G a H, B 0 n G a H ↔ jOb (dC, dI) 0 4 (Fz0 n G) a H) (hB14 : ∀ n G a H, B 14 n G a H ↔ jOb (dC, dI) 14 11 (F14 n G) a H) (hB15 : ∀ n G a H, B 15 n G a H ↔ jOb (dC, dI) 15 50 (F15 n G) a H) (hB16 : ∀ n G a H, B 16 n G a H ↔ jOb (dC, dI) 16 74 (F16 n G) a H) (hB101 : ∀ n G a H, B 101 n G a H ↔ jAr (dC, dI) (ca 1) (fun j z => True) n a H) (hB103 : ∀ n G a H, B 103 n G a H ↔ jAr (dC, dI) (ca 3) (fun j z => (z = 0 ∨ z = 1)) n a H) (hB110 : ∀ n G a H, B 110 n G a H ↔ jAr (dC, dI) (ca 1) (fun j z => 0 ≤ z.toInt ∧ z.toInt ≤ 255) n a H) (hB117 : ∀ n G a H, B 117 n G a H ↔ jAr (dC, dI) (ca 1) (fun j z => True) n a H) (hB118 : ∀ n G a H, B 118 n G a H ↔ jAr (dC, dI) (ca 1) (fun j z => -1 ≤ z.toInt ∧ z.toInt ≤ 3099) n a H) (hB119 : ∀ n G a H, B 119 n G a H ↔ jAr (dC, dI) (ca 1) (fun j z => z.toInt = -1 ∨ z.toInt = 0 ∨ ((j : Nat) < z.toInt ∧ z.toInt ≤ 3099)) n a H) (hB120 : ∀ n G a H, B 120 n G a H ↔ jAr (dC, dI) (ca 1) (fun j z => 0 ≤ z.toInt ∧ z.toInt ≤ 3300) n a H) (hB121 : ∀ n G a H, B 121 n G a H ↔ jAr (dC, dI) (ca 1) (fun j z => 0 ≤ z.toInt ∧ z.toInt ≤ 3300) n a H) (hB122 : ∀ n G a H, B 122 n G a H ↔ jAr (dC, dI) (ca 1) (fun j z => 0 ≤ z.toInt ∧ z.toInt ≤ 3100) n a H) (hB123 : ∀ n G a H, B 123 n G a H ↔ jAr (dC, dI) (ca 1) (fun j z => 0 ≤ z.toInt ∧ z.toInt ≤ 3100) n a H) (hB124 : ∀ n G a H, B 124 n G a H ↔ jAr (dC, dI) (ca 3) (fun j z => (z = 0 ∨ z = 1)) n a H) (hB125 : ∀ n G a H, B 125 n G a H ↔ jAr (dC, dI) (ca 1) (fun j z => True) n a H) (hB127 : ∀ n G a H, B 127 n G a H ↔ jAr (dC, dI) (ca 1) (fun j z => True) n a H) (hB150 : ∀ n G a H, B 150 n G a H ↔ jAr (dC, dI) (ca 1) (fun j z => True) n a H) (hB151 : ∀ n G a H, B 151 n G a H ↔ jAr (dC, dI) (ca 1) (fun j z => True) n a H) (hB152 : ∀ n G a H, B 152 n G a H ↔ jAr (dC, dI) (ca 1) (fun j z => True) n a H) (hB153 : ∀ n G a H, B 153 n G a H ↔ jAr (dC, dI) (ca 1) (fun j z => True) n a H) (hB154 : ∀ n G a H, B 154 n G a H ↔ jAr (dC, dI) (ca 1) (fun j z => True) n a H) (hB155 : ∀ n G a H, B 155 n G a H ↔ jAr (dC, dI) (ca 1) (fun j z => 0 ≤ z.toInt ∧ z.toInt ≤ 11990) n a H) (hB156 : ∀ n G a H, B 156 n G a H ↔ jAr (dC, dI) (ca 1) (fun j z => 0 ≤ z.toInt ∧ z.toInt ≤ 10) n a H) (hB157 : ∀ n G a H, B 157 n G a H ↔ jAr (dC, dI) (ca 1) (fun j z => 0 ≤ z.toInt ∧ z.toInt ≤ 1599) n a H) (hB158 : ∀ n G a H, B 158 n G a H ↔ jAr (dC, dI) (ca 1) (fun j z => 0 ≤ z.toInt ∧ z.toInt ≤ 6) n a H) (hB159 : ∀ n G a H, B 159 n G a H ↔ jAr (dC, dI) (ca 1) (fun j z => 0 ≤ z.toInt ∧ z.toInt ≤ 8) n a H) (hB160 : ∀ n G a H, B 160 n G a H ↔ jAr (dC, dI) (ca 1) (fun j z => 0 ≤ z.toInt ∧ z.toInt ≤ 119999) n a H) (hB161 : ∀ n G a H, B 161 n G a H ↔ jAr (dC, dI) (ca 1) (fun j z => 0 ≤ z.toInt ∧ z.toInt ≤ 119999) n a H) (hB162 : ∀ n G a H, B 162 n G a H ↔ jAr (dC, dI) (ca 1) (fun j z => 0 ≤ z.toInt ∧ z.toInt ≤ 119999) n a H) (hB163 : ∀ n G a H, B 163 n G a H ↔ jAr (dC, dI) (ca 1) (fun j z => 0 ≤ z.toInt ∧ z.toInt ≤ 1599) n a H) (hB164 : ∀ n G a H, B 164 n G a H ↔ jAr (dC, dI) (ca 1) (fun j z => 0 ≤ z.toInt ∧ z.toInt ≤ 100000) n a H) (hB165 : ∀ n G a H, B 165 n G a H ↔ jAr (dC, dI) (ca 1) (fun j z => 0 ≤ z.toInt ∧ z.toInt ≤ 3) n a H) (hB166 : ∀ n G a H, B 166 n G a H ↔ jAr (dC, dI) (ca 1) (fun j z => True) n a H) (hB167 : ∀ n G a H, B 167 n G a H ↔ jAr (dC, dI) (ca 1) (fun j z => True) n a H) (hB168 : ∀ n G a H, B 168 n G a H ↔ jAr (dC, dI) (ca 1) (fun j z => 0 ≤ z.toInt ∧ z.toInt ≤ 119999) n a H) (hB169 : ∀ n G a H, B 169 n G a H ↔ jAr (dC, dI) (ca 1) (fun j z => True) n a H) (hB190 : ∀ n G a H, B 190 n G a H ↔ jAr (dC, dI) (ca 1) (fun j z => 0 ≤ z.toInt ∧ z.toInt ≤ 1500) n a H) (hB191 : ∀ n G a H, B 191 n G a H ↔ jAr (dC, dI) (ca 1) (fun j z => 0 ≤ z.toInt ∧ z.toInt ≤ 1500) n a H) (hB192 : ∀ n G a H, B 192 n G a H ↔ jAr (dC, dI) (ca 1) (fun j z => 0 ≤ z.toInt ∧ z.toInt ≤ 2) n a H) (hB193 : ∀ n G a H, B 193 n G a H ↔ jAr (dC, dI) (ca 1) (fun j z => True) n a H) (hB196 : ∀ n G a H, B 196 n G a H ↔ jAr (dC, dI) (ca 0) (fun j z => jBf j z) n a H) (hB201 : ∀ n G a H, B 201 n G a H ↔ jAq (dC, dI) (ca 4) (jQs 14 0) n G a H) (hB202 : ∀ n G a H, B 202 n G a H ↔ jAq (dC, dI) (ca 4) (jQn 14 0) n G a H) (hB203 : ∀ n G a H, B 203 n G a H ↔ jAr (dC, dI) (ca 1) (fun j z => -3300 ≤ z.toInt ∧ z.toInt ≤ 20) n a H) (hB204 : ∀ n G a H, B 204 n G a H ↔ jAr (dC, dI) (ca 1) (fun j z => -3100 ≤ z.toInt ∧ z.toInt ≤ 3100) n a H) (hB205 : ∀ n G a H, B 205 n G a H ↔ jAr (dC, dI) (ca 1) (fun j z => 0 ≤ z.toInt ∧ z.toInt ≤ 1600) n a H) (hB206 : ∀ n G a H, B 206 n G a H ↔ jAr (dC, dI) (ca 1) (fun j z => 0 ≤ z.toInt ∧ z.toInt ≤ 40) n a H) (hB207 : ∀ n G a H, B 207 n G a H ↔ jAr (dC, dI) (ca 1) (fun j z => 0 ≤ z.toInt ∧ z.toInt ≤ 39) n a H) (hB208 : ∀ n G a H, B 208 n G a H ↔ jAq (dC, dI) (ca 4) (jQn 14 0) n G a H) (G0 : jT) (H0 : Heap) (r0 : Nat) (LC LS : Nat) : Met l yX14_init (jw yX14_init cX14_init 1 none) ({ frames := 3, cells := LC - H0.size, slots := LS - jTot H0, locals := 72 }) (va_Pc [.ref r0] (fun U => U.heap = H0 ∧ jX B base G0 [] H0 ∧ jG dC dI ca base U ∧ jK2 dC dI ca U ∧ jK6 U ∧ va_at (dC, dI) vwCl (r0, .inr (16, [.null, .int 0, .null, .int 0, .int 0, .null, .int 0, .int 0, .int 0, .null, .int 0, .int 0, .int 0, .null, .null, .int 0, .int 0, .null, .null, .null, .null, .null, .null, .null, .null, .null, .int 0, .null, .int 0, .int 0, .int 0, .int 0, .int 0, .int 0, .int 0, .int 0, .int 0, .int 0, .null, .int 0, .int 0, .null, .int 0, .null, .int 0, .null, .null, .null, .int 0, .null, .null, .null, .null, .null, .null, .null, .null, .null, .null, .null, .null, .null, .null, .null, .int 0, .int 0, .int 0, .null, .null, .null, .int 0, .null, .null, .null])) H0 ∧ (∀ t, G0 r0 ≠ some t) ∧ base ≤ r0 ∧ jP (dC, dI) G0 H0 [] ∧ jIs (dC, dI) G0 H0 [(jFz9, jDZ dC dI G0)] ∧ H0.size + 112 ≤ LC ∧ jTot H0 + 974246 ≤ LS ∧ True)) (va_Qv (S := Int32 × Int32 × Int32 × Int32 × Int32 × Int32 × Int32 × Int32 × Nat × Nat × Nat × Nat × Nat × Nat × Nat × Nat × jT) (fun u => u.2.2.2.2.2.2.2.2.1 ≠ u.2.2.2.2.2.2.2.2.2.2.1 ∧ u.2.2.2.2.2.2.2.2.2.1 = 0 ∧ u.2.2.2.2.2.2.2.2.2.2.2.1 = 0 ∧ u.2.2.2.2.2.2.2.2.2.2.2.2.2.1 = 16 ∧ u.2.2.2.2.2.2.2.2.2.2.2.2.2.2.2.1 = 16 ∧ u.1.toInt = 0 ∧ u.2.1.toInt = 0 ∧ u.2.2.1.toInt = 0 ∧ u.2.2.2.1.toInt = -1 ∧ u.2.2.2.2.2.1.toInt = 0 ∧ u.2.2.2.2.2.2.1.toInt = 0 ∧ u.2.2.2.2.2.2.2.1.toInt = 0) (fun u t => jRa (dC, dI) B base G0 u.2.2.2.2.2.2.2.2.2.2.2.2.2.2.2.2 EX14_init H0 (112) (974246) [(r0, 16, 1, .int u.1), (r0, 16, 12, .int u.2.1), (r0, 16, 11, .int u.2.2.1), (r0, 16, 15, .int u.2.2.2.1), (r0, 16, 16, .int u.2.2.2.2.1), (r0, 16, 7, .int u.2.2.2.2.2.1), (u.2.2.2.2.2.2.2.2.1, 0, 3, .int u.2.2.2.2.2.2.1), (u.2.2.2.2.2.2.2.2.2.2.1, 0, 3, .int u.2.2.2.2.2.2.2.1), (r0, 16, 13, .ref u.2.2.2.2.2.2.2.2.1), (r0, 16, 14, .ref u.2.2.2.2.2.2.2.2.2.2.1), (u.2.2.2.2.2.2.2.2.1, 0, 0, .ref u.2.2.2.2.2.2.2.2.2.2.2.2.1), (u.2.2.2.2.2.2.2.2.2.2.1, 0, 0, .ref u.2.2.2.2.2.2.2.2.2.2.2.2.2.2.1)] t.heap ∧ u.2.2.2.2.2.2.2.2.2.2.2.2.2.2.2.2 u.2.2.2.2.2.2.2.2.1 = some (0, u.2.2.2.2.2.2.2.2.2.1) ∧ u.2.2.2.2.2.2.2.2.2.2.2.2.2.2.2.2 u.2.2.2.2.2.2.2.2.2.2.1 = some (0, u.2.2.2.2.2.2.2.2.2.2.2.1) ∧ u.2.2.2.2.2.2.2.2.2.2.2.2.2.2.2.2 u.2.2.2.2.2.2.2.2.2.2.2.2.1 = some (196, u.2.2.2.2.2.2.2.2.2.2.2.2.2.1) ∧ u.2.2.2.2.2.2.2.2.2.2.2.2.2.2.2.2 u.2.2.2.2.2.2.2.2.2.2.2.2.2.2.1 = some (196, u.2.2.2.2.2.2.2.2.2.2.2.2.2.2.2.1) ∧ (jNk [1, 2, 3, 4, 5, 6, 7, 8, 9, 10, 11, 12, 13]) G0 u.2.2.2.2.2.2.2.2.2.2.2.2.2.2.2.2 ∧ u.2.2.2.2.2.2.2.2.2.2.2.2.2.2.2.2 r0 = some (16, 0) ∧ jKx r0 G0 u.2.2.2.2.2.2.2.2.2.2.2.2.2.2.2.2 H0 t.heap ∧ jIs (dC, dI) u.2.2.2.2.2.2.2.2.2.2.2.2.2.2.2.2 t.heap [(jFz9, jDZ dC dI u.2.2.2.2.2.2.2.2.2.2.2.2.2.2.2.2)] ∧ jRo dC dI ca u.2.2.2.2.2.2.2.2.2.2.2.2.2.2.2.2 r0 t.heap) (jA base)) (LC - H0.size) (LS - jTot H0) (jA base) := by
  refine Met.ofW (cc := cX14_init) (maxL := 1) (ret := none) (by decide) rfl ?_
  intro p e s m args below meth c s₁ Bd hml hv
  obtain ⟨rfl, hH0, hX, hG, hK2, hK6, hraw0, hnr0, hbr0, hP0, hI0, hLC0, hLS0, hp0⟩ := hv
  have hK := hG.1
  have hx := Bd.exec
  have hb := Bd.bytes
  have hr := Bd.returns
  have hts := atoms_spec (ws := (jw yX14_init cX14_init 1 none)) Bd.pre
  have htw : ∀ w ∈ jWl, w.before _ s = true := fun w h => hts w (List.mem_cons_of_mem _ h)
  have hown : s.vm.findClass RX14 = some m.cls := findClass_of_methodNamed Bd.named
  have hlocks := Bd.notSynchronized
  obtain ⟨Q, hQ⟩ : ∃ Q, Q = MQ below (va_Qv (S := Int32 × Int32 × Int32 × Int32 × Int32 × Int32 × Int32 × Int32 × Nat × Nat × Nat × Nat × Nat × Nat × Nat × Nat × jT) (fun u => u.2.2.2.2.2.2.2.2.1 ≠ u.2.2.2.2.2.2.2.2.2.2.1 ∧ u.2.2.2.2.2.2.2.2.2.1 = 0 ∧ u.2.2.2.2.2.2.2.2.2.2.2.1 = 0 ∧ u.2.2.2.2.2.2.2.2.2.2.2.2.2.1 = 16 ∧ u.2.2.2.2.2.2.2.2.2.2.2.2.2.2.2.1 = 16 ∧ u.1.toInt = 0 ∧ u.2.1.toInt = 0 ∧ u.2.2.1.toInt = 0 ∧ u.2.2.2.1.toInt = -1 ∧ u.2.2.2.2.2.1.toInt = 0 ∧ u.2.2.2.2.2.2.1.toInt = 0 ∧ u.2.2.2.2.2.2.2.1.toInt = 0) (fun u t => jRa (dC, dI) B base G0 u.2.2.2.2.2.2.2.2.2.2.2.2.2.2.2.2 EX14_init H0 (112) (974246) [(r0, 16, 1, .int u.1), (r0, 16, 12, .int u.2.1), (r0, 16, 11, .int u.2.2.1), (r0, 16, 15, .int u.2.2.2.1), (r0, 16, 16, .int u.2.2.2.2.1), (r0, 16, 7, .int u.2.2.2.2.2.1), (u.2.2.2.2.2.2.2.2.1, 0, 3, .int u.2.2.2.2.2.2.1), (u.2.2.2.2.2.2.2.2.2.2.1, 0, 3, .int u.2.2.2.2.2.2.2.1), (r0, 16, 13, .ref u.2.2.2.2.2.2.2.2.1), (r0, 16, 14, .ref u.2.2.2.2.2.2.2.2.2.2.1), (u.2.2.2.2.2.2.2.2.1, 0, 0, .ref u.2.2.2.2.2.2.2.2.2.2.2.2.1), (u.2.2.2.2.2.2.2.2.2.2.1, 0, 0, .ref u.2.2.2.2.2.2.2.2.2.2.2.2.2.2.1)] t.heap ∧ u.2.2.2.2.2.2.2.2.2.2.2.2.2.2.2.2 u.2.2.2.2.2.2.2.2.1 = some (0, u.2.2.2.2.2.2.2.2.2.1) ∧ u.2.2.2.2.2.2.2.2.2.2.2.2.2.2.2.2 u.2.2.2.2.2.2.2.2.2.2.1 = some (0, u.2.2.2.2.2.2.2.2.2.2.2.1) ∧ u.2.2.2.2.2.2.2.2.2.2.2.2.2.2.2.2 u.2.2.2.2.2.2.2.2.2.2.2.2.1 = some (196, u.2.2.2.2.2.2.2.2.2.2.2.2.2.1) ∧ u.2.2.2.2.2.2.2.2.2.2.2.2.2.2.2.2 u.2.2.2.2.2.2.2.2.2.2.2.2.2.2.1 = some (196, u.2.2.2.2.2.2.2.2.2.2.2.2.2.2.2.1) ∧ (jNk [1, 2, 3, 4, 5, 6, 7, 8, 9, 10, 11, 12, 13]) G0 u.2.2.2.2.2.2.2.2.2.2.2.2.2.2.2.2 ∧ u.2.2.2.2.2.2.2.2.2.2.2.2.2.2.2.2 r0 = some (16, 0) ∧ jKx r0 G0 u.2.2.2.2.2.2.2.2.2.2.2.2.2.2.2.2 H0 t.heap ∧ jIs (dC, dI) u.2.2.2.2.2.2.2.2.2.2.2.2.2.2.2.2 t.heap [(jFz9, jDZ dC dI u.2.2.2.2.2.2.2.2.2.2.2.2.2.2.2.2)] ∧ jRo dC dI ca u.2.2.2.2.2.2.2.2.2.2.2.2.2.2.2.2 r0 t.heap) (jA base)) ([.ref r0] : List Value).toArray s (LC - H0.size) (LS - jTot H0) (jA base) := ⟨_, rfl⟩
  rw [← hQ]
  have hl := lv_entry ([.ref r0]) (n := 1) (Nat.le_of_ble_eq_true rfl)
  rw [lg_entry_eq]
  generalize (lg_sl ([.ref r0]) ++ List.replicate (1 - (lg_sl ([.ref r0])).length) Slot.unset).toArray = ls at hl ⊢
  have hl : lv_has ls 1 [(0, .ref r0)] := hl
  generalize hR : (headSpec (jw yX14_init cX14_init 1 none) ({ frames := 3, cells := LC - H0.size, slots := LS - jTot H0, locals := 72 })).room = R
  subst hH0
  have hh : jSt (dC, dI) B base G0 G0 EX14_init s.heap 0 0 [] [] [(jFz9, jDZ dC dI G0)] s.heap [] := jSt.start hX hP0 jMc.nil hI0
  clear hX hP0
  have hkm1 : ((-1) : Int32).toInt = (-1) := by decide
  have hk0 : (0 : Int32).toInt = 0 := by decide
  have hk1 : (1 : Int32).toInt = 1 := by decide
  have hk2 : (2 : Int32).toInt = 2 := by decide
  have hk3 : (3 : Int32).toInt = 3 := by decide
  have hk12 : (12 : Int32).toInt = 12 := by decide
  have hk20 : (20 : Int32).toInt = 20 := by decide
  have hk24 : (24 : Int32).toInt = 24 := by decide
  have hk40 : (40 : Int32).toInt = 40 := by decide
  have hk240 : (240 : Int32).toInt = 240 := by decide
  have hk1500 : (1500 : Int32).toInt = 1500 := by decide
  have hk1600 : (1600 : Int32).toInt = 1600 := by decide
  have hk3100 : (3100 : Int32).toInt = 3100 := by decide
  have hk3300 : (3300 : Int32).toInt = 3300 := by decide
  have hk4000 : (4000 : Int32).toInt = 4000 := by decide
  have hk20000 : (20000 : Int32).toInt = 20000 := by decide
  have hk37200 : (37200 : Int32).toInt = 37200 := by decide
  have hk38400 : (38400 : Int32).toInt = 38400 := by decide
  have hk100000 : (100000 : Int32).toInt = 100000 := by decide
  have hly_16_0 := htw (u_lay RX14 TX14 0) (jWc_wsX140 _ (u_in_lay (by decide)))
  have hly_16_2 := htw (u_lay RX14 TX14 2) (jWc_wsX140 _ (u_in_lay (by decide)))
  have hly_16_5 := htw (u_lay RX14 TX14 5) (jWc_wsX140 _ (u_in_lay (by decide)))
  have hly_16_9 := htw (u_lay RX14 TX14 9) (jWc_wsX140 _ (u_in_lay (by decide)))
  have hly_16_13 := htw (u_lay RX14 TX14 13) (jWc_wsX140 _ (u_in_lay (by decide)))
  have hly_16_14 := htw (u_lay RX14 TX14 14) (jWc_wsX140 _ (u_in_lay (by decide)))
  have hly_16_15 := htw (u_lay RX14 TX14 15) (jWc_wsX140 _ (u_in_lay (by decide)))
  have hly_16_17 := htw (u_lay RX14 TX14 17) (jWc_wsX140 _ (u_in_lay (by decide)))
  have hly_16_18 := htw (u_lay RX14 TX14 18) (jWc_wsX140 _ (u_in_lay (by decide)))
  have hly_16_19 := htw (u_lay RX14 TX14 19) (jWc_wsX140 _ (u_in_lay (by decide)))
  have hly_16_20 := htw (u_lay RX14 TX14 20) (jWc_wsX140 _ (u_in_lay (by decide)))
  have hly_16_21 := htw (u_lay RX14 TX14 21) (jWc_wsX140 _ (u_in_lay (by decide)))
  have hly_16_22 := htw (u_lay RX14 TX14 22) (jWc_wsX140 _ (u_in_lay (by decide)))
  have hly_16_23 := htw (u_lay RX14 TX14 23) (jWc_wsX140 _ (u_in_lay (by decide)))
  have hly_16_24 := htw (u_lay RX14 TX14 24) (jWc_wsX140 _ (u_in_lay (by decide)))
  have hly_16_25 := htw (u_lay RX14 TX14 25) (jWc_wsX140 _ (u_in_lay (by decide)))
  have hly_16_27 := htw (u_lay RX14 TX14 27) (jWc_wsX140 _ (u_in_lay (by decide)))
  have hly_16_38 := htw (u_lay RX14 TX14 38) (jWc_wsX140 _ (u_in_lay (by decide)))
  have hly_16_41 := htw (u_lay RX14 TX14 41) (jWc_wsX140 _ (u_in_lay (by decide)))
  have hly_16_43 := htw (u_lay RX14 TX14 43) (jWc_wsX140 _ (u_in_lay (by decide)))
  have hly_16_45 := htw (u_lay RX14 TX14 45) (jWc_wsX140 _ (u_in_lay (by decide)))
  have hly_16_46 := htw (u_lay RX14 TX14 46) (jWc_wsX140 _ (u_in_lay (by decide)))
  have hly_16_47 := htw (u_lay RX14 TX14 47) (jWc_wsX140 _ (u_in_lay (by decide)))
  have hly_16_49 := htw (u_lay RX14 TX14 49) (jWc_wsX140 _ (u_in_lay (by decide)))
  have hly_16_50 := htw (u_lay RX14 TX14 50) (jWc_wsX140 _ (u_in_lay (by decide)))
  have hly_16_51 := htw (u_lay RX14 TX14 51) (jWc_wsX140 _ (u_in_lay (by decide)))
  have hly_16_52 := htw (u_lay RX14 TX14 52) (jWc_wsX140 _ (u_in_lay (by decide)))
  have hly_16_53 := htw (u_lay RX14 TX14 53) (jWc_wsX140 _ (u_in_lay (by decide)))
  have hly_16_54 := htw (u_lay RX14 TX14 54) (jWc_wsX140 _ (u_in_lay (by decide)))
  have hly_16_55 := htw (u_lay RX14 TX14 55) (jWc_wsX140 _ (u_in_lay (by decide)))
  have hly_16_56 := htw (u_lay RX14 TX14 56) (jWc_wsX140 _ (u_in_lay (by decide)))
  have hly_16_57 := htw (u_lay RX14 TX14 57) (jWc_wsX140 _ (u_in_lay (by decide)))
  have hly_16_58 := htw (u_lay RX14 TX14 58) (jWc_wsX140 _ (u_in_lay (by decide)))
  have hly_16_59 := htw (u_lay RX14 TX14 59) (jWc_wsX140 _ (u_in_lay (by decide)))
  have hly_16_60 := htw (u_lay RX14 TX14 60) (jWc_wsX140 _ (u_in_lay (by decide)))
  have hly_16_61 := htw (u_lay RX14 TX14 61) (jWc_wsX140 _ (u_in_lay (by decide)))
  have hly_16_62 := htw (u_lay RX14 TX14 62) (jWc_wsX140 _ (u_in_lay (by decide)))
  have hly_16_63 := htw (u_lay RX14 TX14 63) (jWc_wsX140 _ (u_in_lay (by decide)))
  have hly_16_67 := htw (u_lay RX14 TX14 67) (jWc_wsX140 _ (u_in_lay (by decide)))
  have hly_16_68 := htw (u_lay RX14 TX14 68) (jWc_wsX140 _ (u_in_lay (by decide)))
  have hly_16_69 := htw (u_lay RX14 TX14 69) (jWc_wsX140 _ (u_in_lay (by decide)))
  have hly_16_71 := htw (u_lay RX14 TX14 71) (jWc_wsX140 _ (u_in_lay (by decide)))
  have hly_16_72 := htw (u_lay RX14 TX14 72) (jWc_wsX140 _ (u_in_lay (by decide)))
  have hly_16_73 := htw (u_lay RX14 TX14 73) (jWc_wsX140 _ (u_in_lay (by decide)))
  have hlk_9 := (htw (.fieldLink RX14 9 "ProofServerModel" "tape" "[I") (jWr_10 _ (List.mem_of_getElem? (i := 17) rfl)))
  have hlk_13 := (htw (.fieldLink RX14 13 "ProofServerModel" "out" "[I") (jWr_10 _ (List.mem_of_getElem? (i := 18) rfl)))
  have hcs_16 := htw (.constant RX14 16 100000) (jWr_10 _ (List.mem_of_getElem? (i := 19) rfl))
  have hlk_17 := (htw (.fieldLink RX14 17 "ProofServerModel" "frame" "[I") (jWr_10 _ (List.mem_of_getElem? (i := 20) rfl)))
  have hlk_20 := (htw (.fieldLink RX14 20 "ProofServerModel" "kept" "[I") (jWr_10 _ (List.mem_of_getElem? (i := 21) rfl)))
  have hlk_26 := (htw (.fieldLink RX14 26 "ProofServerModel" "name" "Ljava/lang/StringBuilder;") (jWr_11 _ (List.mem_of_getElem? (i := 1) rfl)))
  have hlk_30 := (htw (.fieldLink RX14 30 "ProofServerModel" "value" "Ljava/lang/StringBuilder;") (jWr_11 _ (List.mem_of_getElem? (i := 2) rfl)))
  have hlk_33 := (htw (.fieldLink RX14 33 "ProofServerModel" "length" "I") (jWr_11 _ (List.mem_of_getElem? (i := 3) rfl)))
  have hlk_37 := (htw (.fieldLink RX14 37 "ProofServerModel" "sort" "[I") (jWr_11 _ (List.mem_of_getElem? (i := 4) rfl)))
  have hlk_40 := (htw (.fieldLink RX14 40 "ProofServerModel" "heir" "[I") (jWr_11 _ (List.mem_of_getElem? (i := 5) rfl)))
  have hlk_43 := (htw (.fieldLink RX14 43 "ProofServerModel" "next" "[I") (jWr_11 _ (List.mem_of_getElem? (i := 6) rfl)))
  have hlk_46 := (htw (.fieldLink RX14 46 "ProofServerModel" "nameFrom" "[I") (jWr_11 _ (List.mem_of_getElem? (i := 7) rfl)))
  have hlk_49 := (htw (.fieldLink RX14 49 "ProofServerModel" "nameTo" "[I") (jWr_11 _ (List.mem_of_getElem? (i := 8) rfl)))
  have hlk_52 := (htw (.fieldLink RX14 52 "ProofServerModel" "from" "[I") (jWr_11 _ (List.mem_of_getElem? (i := 9) rfl)))
  have hlk_55 := (htw (.fieldLink RX14 55 "ProofServerModel" "to" "[I") (jWr_11 _ (List.mem_of_getElem? (i := 10) rfl)))
  have hlk_58 := (htw (.fieldLink RX14 58 "ProofServerModel" "isInt" "[Z") (jWr_11 _ (List.mem_of_getElem? (i := 12) rfl)))
  have hlk_62 := (htw (.fieldLink RX14 62 "ProofServerModel" "ints" "[I") (jWr_11 _ (List.mem_of_getElem? (i := 13) rfl)))
  have hlk_65 := (htw (.fieldLink RX14 65 "ProofServerModel" "pool" "[I") (jWr_11 _ (List.mem_of_getElem? (i := 14) rfl)))
  have hlk_68 := (htw (.fieldLink RX14 68 "ProofServerModel" "idUnits" "[I") (jWr_11 _ (List.mem_of_getElem? (i := 15) rfl)))
  have hlk_74 := (htw (.fieldLink RX14 74 "ProofServerModel" "documents" "[LProofServerModel$Document;") (jWr_11 _ (List.mem_of_getElem? (i := 19) rfl)))
  have hlk_78 := (htw (.fieldLink RX14 78 "ProofServerModel" "changed" "[I") (jWr_11 _ (List.mem_of_getElem? (i := 20) rfl)))
  have hlk_81 := (htw (.fieldLink RX14 81 "ProofServerModel" "tail" "[I") (jWr_11 _ (List.mem_of_getElem? (i := 21) rfl)))
  have hlk_84 := (htw (.fieldLink RX14 84 "ProofServerModel" "old" "LProofServerModel$Document;") (jWr_11 _ (List.mem_of_getElem? (i := 22) rfl)))
  have hlk_88 := (htw (.fieldLink RX14 88 "ProofServerModel" "now" "LProofServerModel$Document;") (jWr_11 _ (List.mem_of_getElem? (i := 23) rfl)))
  have hlk_91 := (htw (.fieldLink RX14 91 "ProofServerModel" "waitOf" "[LProofServerModel$Document;") (jWr_12 _ (List.mem_of_getElem? (i := 0) rfl)))
  have hlk_94 := (htw (.fieldLink RX14 94 "ProofServerModel" "waitGoals" "[Z") (jWr_12 _ (List.mem_of_getElem? (i := 1) rfl)))
  have hlk_97 := (htw (.fieldLink RX14 97 "ProofServerModel" "waitNeed" "[I") (jWr_12 _ (List.mem_of_getElem? (i := 2) rfl)))
  have hlk_100 := (htw (.fieldLink RX14 100 "ProofServerModel" "waitString" "[Z") (jWr_12 _ (List.mem_of_getElem? (i := 3) rfl)))
  have hlk_103 := (htw (.fieldLink RX14 103 "ProofServerModel" "waitInt" "[I") (jWr_12 _ (List.mem_of_getElem? (i := 4) rfl)))
  have hlk_106 := (htw (.fieldLink RX14 106 "ProofServerModel" "waitUnits" "[I") (jWr_12 _ (List.mem_of_getElem? (i := 5) rfl)))
  have hlk_109 := (htw (.fieldLink RX14 109 "ProofServerModel" "waitLength" "[I") (jWr_12 _ (List.mem_of_getElem? (i := 6) rfl)))
  have hcs_112 := htw (.constant RX14 112 37200) (jWr_12 _ (List.mem_of_getElem? (i := 7) rfl))
  have hlk_113 := (htw (.fieldLink RX14 113 "ProofServerModel" "waitName" "[I") (jWr_12 _ (List.mem_of_getElem? (i := 8) rfl)))
  have hlk_116 := (htw (.fieldLink RX14 116 "ProofServerModel" "waitNameLength" "[I") (jWr_12 _ (List.mem_of_getElem? (i := 9) rfl)))
  have hlk_122 := (htw (.fieldLink RX14 122 "ProofServerModel" "kernel" "LProofServerModel$Kernel;") (jWr_12 _ (List.mem_of_getElem? (i := 13) rfl)))
  have hlk_126 := (htw (.fieldLink RX14 126 "ProofServerModel" "taken" "[I") (jWr_12 _ (List.mem_of_getElem? (i := 14) rfl)))
  have hlk_129 := (htw (.fieldLink RX14 129 "ProofServerModel" "checkOf" "[LProofServerModel$Document;") (jWr_12 _ (List.mem_of_getElem? (i := 15) rfl)))
  have hlk_132 := (htw (.fieldLink RX14 132 "ProofServerModel" "checkSentence" "[I") (jWr_12 _ (List.mem_of_getElem? (i := 16) rfl)))
  have hlk_135 := (htw (.fieldLink RX14 135 "ProofServerModel" "checkLeft" "[I") (jWr_12 _ (List.mem_of_getElem? (i := 17) rfl)))
  have hlk_138 := (htw (.fieldLink RX14 138 "ProofServerModel" "checkCached" "[Z") (jWr_12 _ (List.mem_of_getElem? (i := 18) rfl)))
  have hcs_141 := htw (.constant RX14 141 38400) (jWr_12 _ (List.mem_of_getElem? (i := 19) rfl))
  have hlk_142 := (htw (.fieldLink RX14 142 "ProofServerModel" "cacheUnits" "[I") (jWr_12 _ (List.mem_of_getElem? (i := 20) rfl)))
  have hlk_145 := (htw (.fieldLink RX14 145 "ProofServerModel" "cacheLength" "[I") (jWr_12 _ (List.mem_of_getElem? (i := 21) rfl)))
  have hlk_148 := (htw (.fieldLink RX14 148 "ProofServerModel" "row" "[I") (jWr_12 _ (List.mem_of_getElem? (i := 22) rfl)))
  have hlk_151 := (htw (.fieldLink RX14 151 "ProofServerModel" "told" "LProofServerModel$Document;") (jWr_12 _ (List.mem_of_getElem? (i := 23) rfl)))
  have hlk_154 := (htw (.fieldLink RX14 154 "ProofServerModel" "toldGoals" "[I") (jWr_13 _ (List.mem_of_getElem? (i := 0) rfl)))
  have hlk_157 := (htw (.fieldLink RX14 157 "ProofServerModel" "toldFacts" "[I") (jWr_13 _ (List.mem_of_getElem? (i := 1) rfl)))
  have hbs : base ≤ s.heap.size := Nat.le_of_lt (Nat.lt_of_le_of_lt hbr0 hraw0.lt)
  have hRc : R.cells = LC - s.heap.size := by rw [← hR]; rfl
  have hRs : R.slots = LS - jTot s.heap := by rw [← hR]; rfl
  have hE0 := hh.iv 0 rfl
  have hab0 : ∀ {a : Nat} {t : Nat × Nat}, G0 a = some t → a < s.heap.size := fun ht => (hh.ab ht).2
  have hin2 : meth.name = "<init>" := (name_of_methodNamed Bd.named Bd.method).1
  have hkp : jKx r0 G0 G0 s.heap s.heap := jKx.rf
  refine lv_aload_n hx hb dX14_init_0 rfl (lv_at hl 0 rfl) ?_
  refine W.objInit hx hb hown (htw (.methodLink RX14 1 objectInit) (jWr_10 _ (List.mem_of_getElem? (i := 16) rfl))) (htw (.instanceMethod objectInit) (jWr_1 _ (List.mem_of_getElem? (i := 10) rfl))) (htw (.code objectInit ⟨#[0xb1]⟩ 1 none) (jWr_1 _ (List.mem_of_getElem? (i := 11) rfl))) rfl (by rw [hml]; exact hl.1) rfl dX14_init_1 (by rw [← hR]; exact Nat.le_of_ble_eq_true rfl) (by rw [← hR]; exact Nat.le_of_ble_eq_true rfl) ?_
  refine W.eq (g2 := F0 m 4 ls []) rfl ?_
  refine lv_aload_n hx hb dX14_init_4 rfl (lv_at hl 0 rfl) ?_
  refine lv_sipush (v := 4000) hx hb dX14_init_5 (by decide) ?_
  have hsz_1 := hh.2.2.2.2.2.1
  have htt_1 := hh.2.2.2.2.2.2.1
  refine j7_newiK hx hb hK hh hB (atype := .int) (ty := .int) (htw (.arrayClass .int) (jWr_3 _ (List.mem_of_getElem? (i := 20) rfl))) rfl rfl (fun _ h => h) hB110 1 rfl (by decide) (by decide) hbs (x := 4000) (by decide) (by omega) (fun j => by first | trivial | decide | rfl | exact Or.inl rfl | (refine ⟨?_, ?_⟩ <;> decide)) (by rw [hRc]; omega) (by rw [hRs]; omega) dX14_init_8 (fun H_1 hfr_1 hh_1 => ?_)
  have hh_1 : jSt (dC, dI) B base G0 (va_up G0 s.heap.size (some (110, 4000))) EX14_init s.heap (0 + 1) (0 + 4000) [] [] [(jFz9, jDZ dC dI G0)] H_1 [] := hh_1
  have hZ_1 : jN14 G0 (va_up G0 s.heap.size (some (110, 4000))) := jN14.new (by decide)
  have hN_1 : (jNk [1, 2, 3, 4, 5, 6, 7, 8, 9, 10, 11, 12, 13]) G0 (va_up G0 s.heap.size (some (110, 4000))) := jNk.new (by decide)
  have hgn_1 : (va_up G0 s.heap.size (some (110, 4000))) s.heap.size = some (110, 4000) := jUp_self
  have hle_1 : jLe G0 (va_up G0 s.heap.size (some (110, 4000))) := jLe.new hh.2.1.fresh
  have hke_1 : jKe G0 (va_up G0 s.heap.size (some (110, 4000))) s.heap H_1 := jKe.new hfr_1
  have hsy_1 : s.heap.size ≤ s.heap.size := hh.1.1
  generalize (va_up G0 s.heap.size (some (110, 4000))) = G_1 at hN_1 hgn_1 hle_1 hke_1 hh_1 hZ_1
  clear hh
  have hNn_1 : (jNk [1, 2, 3, 4, 5, 6, 7, 8, 9, 10, 11, 12, 13]) G0 G_1 := (jNk.rf).tr hN_1
  have hkp_2 := hkp.tr hke_1
  have hraw_3n := hke_1.nr hraw0.lt hnr0
  have hraw_3 := hraw0.kept (hke_1.1 _ hraw0.lt)
  have hz14_1 : jN14 G0 G_1 := (jN14.rf).tr hZ_1
  have hd_4 := jDZ.grow (hh_1.iv 0 rfl) hle_1 hZ_1
  have hh_5 := hh_1.sub (L1 := []) [] rfl (M1 := []) [] rfl (I1 := []) [] rfl
  clear hh_1
  have hh_6 := hh_5.addI (jDZ.ie hd_4)
  clear hh_5
  refine j7_putRF hx hb hown hK hh_6 hB hAp hraw_3 hraw_3n hbr0 (C := RX14) (T := TX14) (N := 74) rfl (i := 0) (by decide) (Nat.le_of_ble_eq_true rfl) hly_16_0 rfl hin2 rfl hlk_9 (ty := (.array .int)) (v := .ref s.heap.size) (by decide +kernel) rfl rfl dX14_init_10 (fun H_7 locs_7 hraw_7 hr_7 hh_7 => ?_)
  have hraw_7 : va_at (dC, dI) vwCl (r0, .inr (16, [.ref s.heap.size, .int 0, .null, .int 0, .int 0, .null, .int 0, .int 0, .int 0, .null, .int 0, .int 0, .int 0, .null, .null, .int 0, .int 0, .null, .null, .null, .null, .null, .null, .null, .null, .null, .int 0, .null, .int 0, .int 0, .int 0, .int 0, .int 0, .int 0, .int 0, .int 0, .int 0, .int 0, .null, .int 0, .int 0, .null, .int 0, .null, .int 0, .null, .null, .null, .int 0, .null, .null, .null, .null, .null, .null, .null, .null, .null, .null, .null, .null, .null, .null, .null, .int 0, .int 0, .int 0, .null, .null, .null, .int 0, .null, .null, .null])) H_7 := hraw_7
  have hkp_8 := hkp_2.put hr_7
  clear hh_6
  refine lv_aload_n hx hb dX14_init_13 rfl (lv_at hl 0 rfl) ?_
  refine lv_sipush (v := 20000) hx hb dX14_init_14 (by decide) ?_
  clear hsz_1 htt_1
  have hsz_9 := hh_7.2.2.2.2.2.1
  have htt_9 := hh_7.2.2.2.2.2.2.1
  refine j7_newiK hx hb hK hh_7 hB (atype := .int) (ty := .int) (htw (.arrayClass .int) (jWr_3 _ (List.mem_of_getElem? (i := 20) rfl))) rfl rfl (fun _ h => h) hB101 1 rfl (by decide) (by decide) hbs (x := 20000) (by decide) (by omega) (fun j => by first | trivial | decide | rfl | exact Or.inl rfl | (refine ⟨?_, ?_⟩ <;> decide)) (by rw [hRc]; omega) (by rw [hRs]; omega) dX14_init_17 (fun H_9 hfr_9 hh_9 => ?_)
  have hh_9 : jSt (dC, dI) B base G0 (va_up G_1 H_7.size (some (101, 20000))) EX14_init s.heap ((0 + 1) + 1) ((0 + 4000) + 20000) [] [] [(jFz9, jDZ dC dI G_1)] H_9 locs_7 := hh_9
  have hZ_9 : jN14 G_1 (va_up G_1 H_7.size (some (101, 20000))) := jN14.new (by decide)
  have hN_9 : (jNk [1, 2, 3, 4, 5, 6, 7, 8, 9, 10, 11, 12, 13]) G_1 (va_up G_1 H_7.size (some (101, 20000))) := jNk.new (by decide)
  have hgn_9 : (va_up G_1 H_7.size (some (101, 20000))) H_7.size = some (101, 20000) := jUp_self
  have hle_9 : jLe G_1 (va_up G_1 H_7.size (some (101, 20000))) := jLe.new hh_7.2.1.fresh
  have hke_9 : jKe G_1 (va_up G_1 H_7.size (some (101, 20000))) H_7 H_9 := jKe.new hfr_9
  have hsy_9 : s.heap.size ≤ H_7.size := hh_7.1.1
  generalize (va_up G_1 H_7.size (some (101, 20000))) = G_9 at hN_9 hgn_9 hle_9 hke_9 hh_9 hZ_9
  clear hh_7
  have hNn_9 : (jNk [1, 2, 3, 4, 5, 6, 7, 8, 9, 10, 11, 12, 13]) G0 G_9 := (hNn_1).tr hN_9
  have hkp_10 := hkp_8.tr hke_9
  have hraw_11n := hke_9.nr hraw_7.lt hraw_3n
  have hraw_11 := hraw_7.kept (hke_9.1 _ hraw_7.lt)
  have hz14_9 : jN14 G0 G_9 := (hz14_1).tr hZ_9
  have hd_12 := jDZ.grow (hh_9.iv 0 rfl) hle_9 hZ_9
  have hh_13 := hh_9.sub (L1 := []) [] rfl (M1 := []) [] rfl (I1 := []) [] rfl
  clear hh_9
  have hh_14 := hh_13.addI (jDZ.ie hd_12)
  clear hh_13
  refine j7_putRF hx hb hown hK hh_14 hB hAp hraw_11 hraw_11n hbr0 (C := RX14) (T := TX14) (N := 74) rfl (i := 2) (by decide) (Nat.le_of_ble_eq_true rfl) hly_16_2 rfl hin2 rfl hlk_13 (ty := (.array .int)) (v := .ref H_7.size) (by decide +kernel) rfl rfl dX14_init_19 (fun H_15 locs_15 hraw_15 hr_15 hh_15 => ?_)
  have hraw_15 : va_at (dC, dI) vwCl (r0, .inr (16, [.ref s.heap.size, .int 0, .ref H_7.size, .int 0, .int 0, .null, .int 0, .int 0, .int 0, .null, .int 0, .int 0, .int 0, .null, .null, .int 0, .int 0, .null, .null, .null, .null, .null, .null, .null, .null, .null, .int 0, .null, .int 0, .int 0, .int 0, .int 0, .int 0, .int 0, .int 0, .int 0, .int 0, .int 0, .null, .int 0, .int 0, .null, .int 0, .null, .int 0, .null, .null, .null, .int 0, .null, .null, .null, .null, .null, .null, .null, .null, .null, .null, .null, .null, .null, .null, .null, .int 0, .int 0, .int 0, .null, .null, .null, .int 0, .null, .null, .null])) H_15 := hraw_15
  have hkp_16 := hkp_10.put hr_15
  clear hh_14
  refine lv_aload_n hx hb dX14_init_22 rfl (lv_at hl 0 rfl) ?_
  refine lv_ldc hx hb hown hcs_16 dX14_init_23 ?_
  clear hsz_9 htt_9
  have hsz_17 := hh_15.2.2.2.2.2.1
  have htt_17 := hh_15.2.2.2.2.2.2.1
  refine j7_newiK hx hb hK hh_15 hB (atype := .int) (ty := .int) (htw (.arrayClass .int) (jWr_3 _ (List.mem_of_getElem? (i := 20) rfl))) rfl rfl (fun _ h => h) hB101 1 rfl (by decide) (by decide) hbs (x := 100000) (by decide) (by omega) (fun j => by first | trivial | decide | rfl | exact Or.inl rfl | (refine ⟨?_, ?_⟩ <;> decide)) (by rw [hRc]; omega) (by rw [hRs]; omega) dX14_init_25 (fun H_17 hfr_17 hh_17 => ?_)
  have hh_17 : jSt (dC, dI) B base G0 (va_up G_9 H_15.size (some (101, 100000))) EX14_init s.heap (((0 + 1) + 1) + 1) (((0 + 4000) + 20000) + 100000) [] [] [(jFz9, jDZ dC dI G_9)] H_17 locs_15 := hh_17
  have hZ_17 : jN14 G_9 (va_up G_9 H_15.size (some (101, 100000))) := jN14.new (by decide)
  have hN_17 : (jNk [1, 2, 3, 4, 5, 6, 7, 8, 9, 10, 11, 12, 13]) G_9 (va_up G_9 H_15.size (some (101, 100000))) := jNk.new (by decide)
  have hgn_17 : (va_up G_9 H_15.size (some (101, 100000))) H_15.size = some (101, 100000) := jUp_self
  have hle_17 : jLe G_9 (va_up G_9 H_15.size (some (101, 100000))) := jLe.new hh_15.2.1.fresh
  have hke_17 : jKe G_9 (va_up G_9 H_15.size (some (101, 100000))) H_15 H_17 := jKe.new hfr_17
  have hsy_17 : s.heap.size ≤ H_15.size := hh_15.1.1
  generalize (va_up G_9 H_15.size (some (101, 100000))) = G_17 at hN_17 hgn_17 hle_17 hke_17 hh_17 hZ_17
  clear hh_15
  have hNn_17 : (jNk [1, 2, 3, 4, 5, 6, 7, 8, 9, 10, 11, 12, 13]) G0 G_17 := (hNn_9).tr hN_17
  have hkp_18 := hkp_16.tr hke_17
  have hraw_19n := hke_17.nr hraw_15.lt hraw_11n
  have hraw_19 := hraw_15.kept (hke_17.1 _ hraw_15.lt)
  have hz14_17 : jN14 G0 G_17 := (hz14_9).tr hZ_17
  have hd_20 := jDZ.grow (hh_17.iv 0 rfl) hle_17 hZ_17
  have hh_21 := hh_17.sub (L1 := []) [] rfl (M1 := []) [] rfl (I1 := []) [] rfl
  clear hh_17
  have hh_22 := hh_21.addI (jDZ.ie hd_20)
  clear hh_21
  refine j7_putRF hx hb hown hK hh_22 hB hAp hraw_19 hraw_19n hbr0 (C := RX14) (T := TX14) (N := 74) rfl (i := 5) (by decide) (Nat.le_of_ble_eq_true rfl) hly_16_5 rfl hin2 rfl hlk_17 (ty := (.array .int)) (v := .ref H_15.size) (by decide +kernel) rfl rfl dX14_init_27 (fun H_23 locs_23 hraw_23 hr_23 hh_23 => ?_)
  have hraw_23 : va_at (dC, dI) vwCl (r0, .inr (16, [.ref s.heap.size, .int 0, .ref H_7.size, .int 0, .int 0, .ref H_15.size, .int 0, .int 0, .int 0, .null, .int 0, .int 0, .int 0, .null, .null, .int 0, .int 0, .null, .null, .null, .null, .null, .null, .null, .null, .null, .int 0, .null, .int 0, .int 0, .int 0, .int 0, .int 0, .int 0, .int 0, .int 0, .int 0, .int 0, .null, .int 0, .int 0, .null, .int 0, .null, .int 0, .null, .null, .null, .int 0, .null, .null, .null, .null, .null, .null, .null, .null, .null, .null, .null, .null, .null, .null, .null, .int 0, .int 0, .int 0, .null, .null, .null, .int 0, .null, .null, .null])) H_23 := hraw_23
  have hkp_24 := hkp_18.put hr_23
  clear hh_22
  refine lv_aload_n hx hb dX14_init_30 rfl (lv_at hl 0 rfl) ?_
  refine lv_sipush (v := 3300) hx hb dX14_init_31 (by decide) ?_
  clear hsz_17 htt_17
  have hsz_25 := hh_23.2.2.2.2.2.1
  have htt_25 := hh_23.2.2.2.2.2.2.1
  refine j7_newiK hx hb hK hh_23 hB (atype := .int) (ty := .int) (htw (.arrayClass .int) (jWr_3 _ (List.mem_of_getElem? (i := 20) rfl))) rfl rfl (fun _ h => h) hB110 1 rfl (by decide) (by decide) hbs (x := 3300) (by decide) (by omega) (fun j => by first | trivial | decide | rfl | exact Or.inl rfl | (refine ⟨?_, ?_⟩ <;> decide)) (by rw [hRc]; omega) (by rw [hRs]; omega) dX14_init_34 (fun H_25 hfr_25 hh_25 => ?_)
  have hh_25 : jSt (dC, dI) B base G0 (va_up G_17 H_23.size (some (110, 3300))) EX14_init s.heap ((((0 + 1) + 1) + 1) + 1) ((((0 + 4000) + 20000) + 100000) + 3300) [] [] [(jFz9, jDZ dC dI G_17)] H_25 locs_23 := hh_25
  have hZ_25 : jN14 G_17 (va_up G_17 H_23.size (some (110, 3300))) := jN14.new (by decide)
  have hN_25 : (jNk [1, 2, 3, 4, 5, 6, 7, 8, 9, 10, 11, 12, 13]) G_17 (va_up G_17 H_23.size (some (110, 3300))) := jNk.new (by decide)
  have hgn_25 : (va_up G_17 H_23.size (some (110, 3300))) H_23.size = some (110, 3300) := jUp_self
  have hle_25 : jLe G_17 (va_up G_17 H_23.size (some (110, 3300))) := jLe.new hh_23.2.1.fresh
  have hke_25 : jKe G_17 (va_up G_17 H_23.size (some (110, 3300))) H_23 H_25 := jKe.new hfr_25
  have hsy_25 : s.heap.size ≤ H_23.size := hh_23.1.1
  generalize (va_up G_17 H_23.size (some (110, 3300))) = G_25 at hN_25 hgn_25 hle_25 hke_25 hh_25 hZ_25
  clear hh_23
  have hNn_25 : (jNk [1, 2, 3, 4, 5, 6, 7, 8, 9, 10, 11, 12, 13]) G0 G_25 := (hNn_17).tr hN_25
  have hkp_26 := hkp_24.tr hke_25
  have hraw_27n := hke_25.nr hraw_23.lt hraw_19n
  have hraw_27 := hraw_23.kept (hke_25.1 _ hraw_23.lt)
  have hz14_25 : jN14 G0 G_25 := (hz14_17).tr hZ_25
  have hd_28 := jDZ.grow (hh_25.iv 0 rfl) hle_25 hZ_25
  have hh_29 := hh_25.sub (L1 := []) [] rfl (M1 := []) [] rfl (I1 := []) [] rfl
  clear hh_25
  have hh_30 := hh_29.addI (jDZ.ie hd_28)
  clear hh_29
  refine j7_putRF hx hb hown hK hh_30 hB hAp hraw_27 hraw_27n hbr0 (C := RX14) (T := TX14) (N := 74) rfl (i := 9) (by decide) (Nat.le_of_ble_eq_true rfl) hly_16_9 rfl hin2 rfl hlk_20 (ty := (.array .int)) (v := .ref H_23.size) (by decide +kernel) rfl rfl dX14_init_36 (fun H_31 locs_31 hraw_31 hr_31 hh_31 => ?_)
  have hraw_31 : va_at (dC, dI) vwCl (r0, .inr (16, [.ref s.heap.size, .int 0, .ref H_7.size, .int 0, .int 0, .ref H_15.size, .int 0, .int 0, .int 0, .ref H_23.size, .int 0, .int 0, .int 0, .null, .null, .int 0, .int 0, .null, .null, .null, .null, .null, .null, .null, .null, .null, .int 0, .null, .int 0, .int 0, .int 0, .int 0, .int 0, .int 0, .int 0, .int 0, .int 0, .int 0, .null, .int 0, .int 0, .null, .int 0, .null, .int 0, .null, .null, .null, .int 0, .null, .null, .null, .null, .null, .null, .null, .null, .null, .null, .null, .null, .null, .null, .null, .int 0, .int 0, .int 0, .null, .null, .null, .int 0, .null, .null, .null])) H_31 := hraw_31
  have hkp_32 := hkp_26.put hr_31
  clear hh_30
  refine lv_aload_n hx hb dX14_init_39 rfl (lv_at hl 0 rfl) ?_
  clear hsz_25 htt_25
  have hsz_33 := hh_31.2.2.2.2.2.1
  have htt_33 := hh_31.2.2.2.2.2.2.1
  refine j7_newo (k := 0) (C := RJ4) (T := TJ4) (N := 4) (fs := [.null, .int 0, .int 0, .int 0]) hx hb htw jWc_wsJ40 (fun k => ([(.array .byte), .byte, .boolean, .int] : List FieldType).getD k .int) (by decide +kernel) hown (htw (.classLink RX14 23 RJ4) (jWr_10 _ (List.mem_of_getElem? (i := 22) rfl))) (htw (.instantiable RJ4 4) (jWr_10 _ (List.mem_of_getElem? (i := 23) rfl))) (htw (.initialized RJ4) (jWr_11 _ (List.mem_of_getElem? (i := 0) rfl))) hK rfl (fun j hj => by rcases (by omega : j = 0 ∨ j = 1 ∨ j = 2 ∨ j = 3) with rfl | rfl | rfl | rfl <;> rfl) hh_31 hB (by rw [hRc]; omega) (by rw [hRs]; omega) dX14_init_40 (fun H_33 hraw_33 hfr_33 hnr_33 hh_33 => ?_)
  have hlt_34 := hraw_31.lt
  have hke_33 : jKe G_25 G_25 H_31 H_33 := jKe.raw hfr_33
  have hbr_33 : base ≤ H_31.size := Nat.le_trans hbs hh_31.1.1
  have hsy_33 : s.heap.size ≤ H_31.size := hh_31.1.1
  clear hh_31
  have hkp_35 := hkp_32.tr hke_33
  have hraw_36n := hke_33.nr hraw_31.lt hraw_27n
  have hraw_36 := hraw_31.kept (hke_33.1 _ hraw_31.lt)
  have hne_37 : r0 ≠ H_31.size := Nat.ne_of_lt hlt_34
  refine lv_dup hx hb dX14_init_43 rfl ?_
  clear hsz_33 htt_33
  have hsz_38 := hh_33.2.2.2.2.2.1
  have htt_38 := hh_33.2.2.2.2.2.2.1
  refine W.room (fun hrc_38 hrs_38 => ?_)
  refine va_callv (A0 := jA base) (H0 := s.heap) (va_runI (As := []) (rest := [.ref H_31.size, .ref r0]) ⟨hx, hb, hml, hown, hts⟩ (uJ4_init_da8c8W l dC dI ca base B hB hAp hB0 hB196 G_25 H_33 H_31.size LC LS) (cwI 0 hts (jgW (jWr_13 _ (List.mem_of_getElem? (i := 4) rfl))) rfl rfl rfl (htw (.initialized RJ4) (jWr_11 _ (List.mem_of_getElem? (i := 0) rfl))) (htw (.methodLink RX14 25 yJ4_init_da8c8) (jWr_13 _ (List.mem_of_getElem? (i := 2) rfl))) (htw (.instanceMethod yJ4_init_da8c8) (jWr_13 _ (List.mem_of_getElem? (i := 3) rfl))) rfl (by decide +kernel) ⟨by rw [← hR]; exact Nat.le_of_ble_eq_true rfl, by rw [← hR]; exact Nat.le_of_ble_eq_true rfl⟩) ⟨fun a U g mk q => by obtain ⟨q0, q1, q2, qK, q10, q11, q12, q13, q14⟩ := q; exact ⟨q0, q1, q2, jG.calling g mk a qK, q10, q11, q12, q13, q14⟩, fun U hU hW => ⟨rfl, hU, hh_33.2.1, hG.step hW hU hh_33.1, hraw_33, hnr_33, hbr_33, jP.nil, (by omega), (by omega), trivial⟩⟩ rfl rfl hl.1 rfl (lv_room (Nat.le_of_ble_eq_true rfl)) dX14_init_44 ⟨by rw [hRc]; omega, by rw [hRs]; omega⟩) hh_33.1 (fun q _ h => h) (fun q h => h) (fun u_38 t_38 H_38 locs_38 ht_38 hvm_38 hr_39 hb_38 hz_38 hk_38 hS_38 => ?_)
  obtain ⟨qc_38, xa_38, m_xa_38, G_38⟩ := u_38
  rw [ht_38] at hb_38
  simp only at hb_38
  obtain ⟨⟨hb_381, hb_382, hb_383, hb_384, hb_385, hb_386⟩, hgq_38_0, hN_38, hgc_38, hbX_38⟩ := hb_38
  have hZ_38 : jN14 G_25 G_38 := fun a h => hN_38 a 14 0 h rfl
  have hN_38 : (jNk [1, 2, 3, 4, 5, 6, 7, 8, 9, 10, 11, 12, 13]) G_25 G_38 := hN_38.sub (by decide)
  have hh_38 : jSt (dC, dI) B base G0 G_38 EX14_init s.heap ((((((0 + 1) + 1) + 1) + 1) + 1) + (1)) ((((((0 + 4000) + 20000) + 100000) + 3300) + 4) + (16)) [(H_31.size, 0, 3, .int qc_38), (H_31.size, 0, 0, .ref xa_38)] [] [(jFz9, jDZ dC dI G_25)] H_38 locs_38 := (hh_33.callG hb_381 hb_382 hb_383 hb_384 hb_385 hS_38 rfl (L1 := []) [] rfl rfl (M1 := []) [] rfl rfl (I1 := [(jFz9, jDZ dC dI G_25)]) [0] rfl rfl).more hb_386
  have hNn_38 : (jNk [1, 2, 3, 4, 5, 6, 7, 8, 9, 10, 11, 12, 13]) G0 G_38 := (hNn_25).tr hN_38
  have hd_40 := jDZ.grow (hh_38.iv 0 rfl) hb_382 hZ_38
  have hh_41 := hh_38.sub (L1 := [(H_31.size, 0, 3, .int qc_38), (H_31.size, 0, 0, .ref xa_38)]) [0, 1] rfl (M1 := []) [] rfl (I1 := []) [] rfl
  clear hh_38
  have hh_42 := hh_41.addI (jDZ.ie hd_40)
  clear hh_41
  try simp only at hr_39
  obtain ⟨hr_39_0, hr_39_1⟩ := hr_39
  have hkp_43 := hkp_35.in hbX_38 hsy_33
  have hraw_44x := hbX_38.ke hraw_36.lt hne_37 hraw_36n
  have hraw_44 := hraw_36.kept hraw_44x.1
  refine j7_putRF hx hb hown hK hh_42 hB hAp hraw_44 hraw_44x.2 hbr0 (C := RX14) (T := TX14) (N := 74) rfl (i := 13) (by decide) (Nat.le_of_ble_eq_true rfl) hly_16_13 rfl hin2 rfl hlk_26 (ty := (.object "java/lang/StringBuilder")) (v := .ref H_31.size) (by decide +kernel) rfl rfl dX14_init_47 (fun H_45 locs_45 hraw_45 hr_45 hh_45 => ?_)
  have hraw_45 : va_at (dC, dI) vwCl (r0, .inr (16, [.ref s.heap.size, .int 0, .ref H_7.size, .int 0, .int 0, .ref H_15.size, .int 0, .int 0, .int 0, .ref H_23.size, .int 0, .int 0, .int 0, .ref H_31.size, .null, .int 0, .int 0, .null, .null, .null, .null, .null, .null, .null, .null, .null, .int 0, .null, .int 0, .int 0, .int 0, .int 0, .int 0, .int 0, .int 0, .int 0, .int 0, .int 0, .null, .int 0, .int 0, .null, .int 0, .null, .int 0, .null, .null, .null, .int 0, .null, .null, .null, .null, .null, .null, .null, .null, .null, .null, .null, .null, .null, .null, .null, .int 0, .int 0, .int 0, .null, .null, .null, .int 0, .null, .null, .null])) H_45 := hraw_45
  have hkp_46 := hkp_43.put hr_45
  clear hh_42
  refine lv_aload_n hx hb dX14_init_50 rfl (lv_at hl 0 rfl) ?_
  have hnb : H_31.size ≠ H_45.size := Nat.ne_of_lt (hh_45.ab ((jLe.rf) _ _ hgc_38)).2
  clear hsz_38 htt_38 hrc_38 hrs_38
  have hsz_47 := hh_45.2.2.2.2.2.1
  have htt_47 := hh_45.2.2.2.2.2.2.1
  refine j7_newo (k := 0) (C := RJ4) (T := TJ4) (N := 4) (fs := [.null, .int 0, .int 0, .int 0]) hx hb htw jWc_wsJ40 (fun k => ([(.array .byte), .byte, .boolean, .int] : List FieldType).getD k .int) (by decide +kernel) hown (htw (.classLink RX14 23 RJ4) (jWr_10 _ (List.mem_of_getElem? (i := 22) rfl))) (htw (.instantiable RJ4 4) (jWr_10 _ (List.mem_of_getElem? (i := 23) rfl))) (htw (.initialized RJ4) (jWr_11 _ (List.mem_of_getElem? (i := 0) rfl))) hK rfl (fun j hj => by rcases (by omega : j = 0 ∨ j = 1 ∨ j = 2 ∨ j = 3) with rfl | rfl | rfl | rfl <;> rfl) hh_45 hB (by rw [hRc]; omega) (by rw [hRs]; omega) dX14_init_51 (fun H_47 hraw_47 hfr_47 hnr_47 hh_47 => ?_)
  have hlt_48 := hraw_45.lt
  have hke_47 : jKe G_38 G_38 H_45 H_47 := jKe.raw hfr_47
  have hbr_47 : base ≤ H_45.size := Nat.le_trans hbs hh_45.1.1
  have hsy_47 : s.heap.size ≤ H_45.size := hh_45.1.1
  clear hh_45
  have hkp_49 := hkp_46.tr hke_47
  have hraw_50n := hke_47.nr hraw_45.lt hraw_44x.2
  have hraw_50 := hraw_45.kept (hke_47.1 _ hraw_45.lt)
  have hne_51 : r0 ≠ H_45.size := Nat.ne_of_lt hlt_48
  refine lv_dup hx hb dX14_init_54 rfl ?_
  clear hsz_47 htt_47
  have hsz_52 := hh_47.2.2.2.2.2.1
  have htt_52 := hh_47.2.2.2.2.2.2.1
  refine W.room (fun hrc_52 hrs_52 => ?_)
  refine va_callv (A0 := jA base) (H0 := s.heap) (va_runI (As := []) (rest := [.ref H_45.size, .ref r0]) ⟨hx, hb, hml, hown, hts⟩ (uJ4_init_da8c8W l dC dI ca base B hB hAp hB0 hB196 G_38 H_47 H_45.size LC LS) (cwI 0 hts (jgW (jWr_13 _ (List.mem_of_getElem? (i := 4) rfl))) rfl rfl rfl (htw (.initialized RJ4) (jWr_11 _ (List.mem_of_getElem? (i := 0) rfl))) (htw (.methodLink RX14 25 yJ4_init_da8c8) (jWr_13 _ (List.mem_of_getElem? (i := 2) rfl))) (htw (.instanceMethod yJ4_init_da8c8) (jWr_13 _ (List.mem_of_getElem? (i := 3) rfl))) rfl (by decide +kernel) ⟨by rw [← hR]; exact Nat.le_of_ble_eq_true rfl, by rw [← hR]; exact Nat.le_of_ble_eq_true rfl⟩) ⟨fun a U g mk q => by obtain ⟨q0, q1, q2, qK, q10, q11, q12, q13, q14⟩ := q; exact ⟨q0, q1, q2, jG.calling g mk a qK, q10, q11, q12, q13, q14⟩, fun U hU hW => ⟨rfl, hU, hh_47.2.1, hG.step hW hU hh_47.1, hraw_47, hnr_47, hbr_47, jP.nil, (by omega), (by omega), trivial⟩⟩ rfl rfl hl.1 rfl (lv_room (Nat.le_of_ble_eq_true rfl)) dX14_init_55 ⟨by rw [hRc]; omega, by rw [hRs]; omega⟩) hh_47.1 (fun q _ h => h) (fun q h => h) (fun u_52 t_52 H_52 locs_52 ht_52 hvm_52 hr_53 hb_52 hz_52 hk_52 hS_52 => ?_)
  obtain ⟨qc_52, xa_52, m_xa_52, G_52⟩ := u_52
  rw [ht_52] at hb_52
  simp only at hb_52
  obtain ⟨⟨hb_521, hb_522, hb_523, hb_524, hb_525, hb_526⟩, hgq_52_0, hN_52, hgc_52, hbX_52⟩ := hb_52
  have hZ_52 : jN14 G_38 G_52 := fun a h => hN_52 a 14 0 h rfl
  have hN_52 : (jNk [1, 2, 3, 4, 5, 6, 7, 8, 9, 10, 11, 12, 13]) G_38 G_52 := hN_52.sub (by decide)
  have hh_52 : jSt (dC, dI) B base G0 G_52 EX14_init s.heap ((((((((0 + 1) + 1) + 1) + 1) + 1) + (1)) + 1) + (1)) ((((((((0 + 4000) + 20000) + 100000) + 3300) + 4) + (16)) + 4) + (16)) [(H_45.size, 0, 3, .int qc_52), (H_45.size, 0, 0, .ref xa_52), (H_31.size, 0, 3, .int qc_38), (H_31.size, 0, 0, .ref xa_38)] [] [(jFz9, jDZ dC dI G_38)] H_52 locs_52 := (hh_47.callG hb_521 hb_522 hb_523 hb_524 hb_525 hS_52 rfl (L1 := [(H_31.size, 0, 3, .int qc_38), (H_31.size, 0, 0, .ref xa_38)]) [0, 1] rfl rfl (M1 := []) [] rfl rfl (I1 := [(jFz9, jDZ dC dI G_38)]) [0] rfl rfl).more hb_526
  have hNn_52 : (jNk [1, 2, 3, 4, 5, 6, 7, 8, 9, 10, 11, 12, 13]) G0 G_52 := (hNn_38).tr hN_52
  have hg_54 := hb_522 _ _ hgq_38_0
  have hd_55 := jDZ.grow (hh_52.iv 0 rfl) hb_522 hZ_52
  have hh_56 := hh_52.sub (L1 := [(H_45.size, 0, 3, .int qc_52), (H_45.size, 0, 0, .ref xa_52), (H_31.size, 0, 3, .int qc_38), (H_31.size, 0, 0, .ref xa_38)]) [0, 1, 2, 3] rfl (M1 := []) [] rfl (I1 := []) [] rfl
  clear hh_52
  have hh_57 := hh_56.addI (jDZ.ie hd_55)
  clear hh_56
  try simp only at hr_53
  obtain ⟨hr_53_0, hr_53_1⟩ := hr_53
  have hkp_58 := hkp_49.in hbX_52 hsy_47
  have hraw_59x := hbX_52.ke hraw_50.lt hne_51 hraw_50n
  have hraw_59 := hraw_50.kept hraw_59x.1
  refine j7_putRF hx hb hown hK hh_57 hB hAp hraw_59 hraw_59x.2 hbr0 (C := RX14) (T := TX14) (N := 74) rfl (i := 14) (by decide) (Nat.le_of_ble_eq_true rfl) hly_16_14 rfl hin2 rfl hlk_30 (ty := (.object "java/lang/StringBuilder")) (v := .ref H_45.size) (by decide +kernel) rfl rfl dX14_init_58 (fun H_60 locs_60 hraw_60 hr_60 hh_60 => ?_)
  have hraw_60 : va_at (dC, dI) vwCl (r0, .inr (16, [.ref s.heap.size, .int 0, .ref H_7.size, .int 0, .int 0, .ref H_15.size, .int 0, .int 0, .int 0, .ref H_23.size, .int 0, .int 0, .int 0, .ref H_31.size, .ref H_45.size, .int 0, .int 0, .null, .null, .null, .null, .null, .null, .null, .null, .null, .int 0, .null, .int 0, .int 0, .int 0, .int 0, .int 0, .int 0, .int 0, .int 0, .int 0, .int 0, .null, .int 0, .int 0, .null, .int 0, .null, .int 0, .null, .null, .null, .int 0, .null, .null, .null, .null, .null, .null, .null, .null, .null, .null, .null, .null, .null, .null, .null, .int 0, .int 0, .int 0, .null, .null, .null, .int 0, .null, .null, .null])) H_60 := hraw_60
  have hkp_61 := hkp_58.put hr_60
  clear hh_57
  refine lv_aload_n hx hb dX14_init_61 rfl (lv_at hl 0 rfl) ?_
  refine lv_iconst (v := (-1)) hx hb dX14_init_62 (by decide) ?_
  refine j7_putR hx hb hown hK hh_60 hB hAp hraw_60 hraw_59x.2 hbr0 (C := RX14) (T := TX14) (N := 74) rfl (i := 15) (by decide) (Nat.le_of_ble_eq_true rfl) hly_16_15 rfl hlk_33 (ty := .int) (v := .int (-1)) (by decide +kernel) rfl rfl dX14_init_63 (fun H_62 locs_62 hraw_62 hr_62 hh_62 => ?_)
  have hraw_62 : va_at (dC, dI) vwCl (r0, .inr (16, [.ref s.heap.size, .int 0, .ref H_7.size, .int 0, .int 0, .ref H_15.size, .int 0, .int 0, .int 0, .ref H_23.size, .int 0, .int 0, .int 0, .ref H_31.size, .ref H_45.size, .int (-1), .int 0, .null, .null, .null, .null, .null, .null, .null, .null, .null, .int 0, .null, .int 0, .int 0, .int 0, .int 0, .int 0, .int 0, .int 0, .int 0, .int 0, .int 0, .null, .int 0, .int 0, .null, .int 0, .null, .int 0, .null, .null, .null, .int 0, .null, .null, .null, .null, .null, .null, .null, .null, .null, .null, .null, .null, .null, .null, .null, .int 0, .int 0, .int 0, .null, .null, .null, .int 0, .null, .null, .null])) H_62 := hraw_62
  have hkp_63 := hkp_61.put hr_62
  clear hh_60
  refine lv_aload_n hx hb dX14_init_66 rfl (lv_at hl 0 rfl) ?_
  refine lv_sipush (v := 3100) hx hb dX14_init_67 (by decide) ?_
  clear hsz_52 htt_52 hrc_52 hrs_52
  have hsz_64 := hh_62.2.2.2.2.2.1
  have htt_64 := hh_62.2.2.2.2.2.2.1
  refine j7_newiK hx hb hK hh_62 hB (atype := .int) (ty := .int) (htw (.arrayClass .int) (jWr_3 _ (List.mem_of_getElem? (i := 20) rfl))) rfl rfl (fun _ h => h) hB117 1 rfl (by decide) (by decide) hbs (x := 3100) (by decide) (by omega) (fun j => by first | trivial | decide | rfl | exact Or.inl rfl | (refine ⟨?_, ?_⟩ <;> decide)) (by rw [hRc]; omega) (by rw [hRs]; omega) dX14_init_70 (fun H_64 hfr_64 hh_64 => ?_)
  have hh_64 : jSt (dC, dI) B base G0 (va_up G_52 H_62.size (some (117, 3100))) EX14_init s.heap (((((((((0 + 1) + 1) + 1) + 1) + 1) + (1)) + 1) + (1)) + 1) (((((((((0 + 4000) + 20000) + 100000) + 3300) + 4) + (16)) + 4) + (16)) + 3100) [(H_45.size, 0, 3, .int qc_52), (H_45.size, 0, 0, .ref xa_52), (H_31.size, 0, 3, .int qc_38), (H_31.size, 0, 0, .ref xa_38)] [] [(jFz9, jDZ dC dI G_52)] H_64 locs_62 := hh_64
  have hZ_64 : jN14 G_52 (va_up G_52 H_62.size (some (117, 3100))) := jN14.new (by decide)
  have hN_64 : (jNk [1, 2, 3, 4, 5, 6, 7, 8, 9, 10, 11, 12, 13]) G_52 (va_up G_52 H_62.size (some (117, 3100))) := jNk.new (by decide)
  have hgn_64 : (va_up G_52 H_62.size (some (117, 3100))) H_62.size = some (117, 3100) := jUp_self
  have hle_64 : jLe G_52 (va_up G_52 H_62.size (some (117, 3100))) := jLe.new hh_62.2.1.fresh
  have hke_64 : jKe G_52 (va_up G_52 H_62.size (some (117, 3100))) H_62 H_64 := jKe.new hfr_64
  have hsy_64 : s.heap.size ≤ H_62.size := hh_62.1.1
  generalize (va_up G_52 H_62.size (some (117, 3100))) = G_64 at hN_64 hgn_64 hle_64 hke_64 hh_64 hZ_64
  clear hh_62
  have hNn_64 : (jNk [1, 2, 3, 4, 5, 6, 7, 8, 9, 10, 11, 12, 13]) G0 G_64 := (hNn_52).tr hN_64
  have hg_65 := hle_64 _ _ hgq_52_0
  have hg_66 := hle_64 _ _ hg_54
  have hkp_67 := hkp_63.tr hke_64
  have hraw_68n := hke_64.nr hraw_62.lt hraw_59x.2
  have hraw_68 := hraw_62.kept (hke_64.1 _ hraw_62.lt)
  have hz14_64 : jN14 G0 G_64 := (hz14_25).tr hZ_64
  have hd_69 := jDZ.grow (hh_64.iv 0 rfl) hle_64 hZ_64
  have hh_70 := hh_64.sub (L1 := [(H_45.size, 0, 3, .int qc_52), (H_45.size, 0, 0, .ref xa_52), (H_31.size, 0, 3, .int qc_38), (H_31.size, 0, 0, .ref xa_38)]) [0, 1, 2, 3] rfl (M1 := []) [] rfl (I1 := []) [] rfl
  clear hh_64
  have hh_71 := hh_70.addI (jDZ.ie hd_69)
  clear hh_70
  refine j7_putRF hx hb hown hK hh_71 hB hAp hraw_68 hraw_68n hbr0 (C := RX14) (T := TX14) (N := 74) rfl (i := 17) (by decide) (Nat.le_of_ble_eq_true rfl) hly_16_17 rfl hin2 rfl hlk_37 (ty := (.array .int)) (v := .ref H_62.size) (by decide +kernel) rfl rfl dX14_init_72 (fun H_72 locs_72 hraw_72 hr_72 hh_72 => ?_)
  have hraw_72 : va_at (dC, dI) vwCl (r0, .inr (16, [.ref s.heap.size, .int 0, .ref H_7.size, .int 0, .int 0, .ref H_15.size, .int 0, .int 0, .int 0, .ref H_23.size, .int 0, .int 0, .int 0, .ref H_31.size, .ref H_45.size, .int (-1), .int 0, .ref H_62.size, .null, .null, .null, .null, .null, .null, .null, .null, .int 0, .null, .int 0, .int 0, .int 0, .int 0, .int 0, .int 0, .int 0, .int 0, .int 0, .int 0, .null, .int 0, .int 0, .null, .int 0, .null, .int 0, .null, .null, .null, .int 0, .null, .null, .null, .null, .null, .null, .null, .null, .null, .null, .null, .null, .null, .null, .null, .int 0, .int 0, .int 0, .null, .null, .null, .int 0, .null, .null, .null])) H_72 := hraw_72
  have hkp_73 := hkp_67.put hr_72
  clear hh_71
  refine lv_aload_n hx hb dX14_init_75 rfl (lv_at hl 0 rfl) ?_
  refine lv_sipush (v := 3100) hx hb dX14_init_76 (by decide) ?_
  clear hsz_64 htt_64
  have hsz_74 := hh_72.2.2.2.2.2.1
  have htt_74 := hh_72.2.2.2.2.2.2.1
  refine j7_newiK hx hb hK hh_72 hB (atype := .int) (ty := .int) (htw (.arrayClass .int) (jWr_3 _ (List.mem_of_getElem? (i := 20) rfl))) rfl rfl (fun _ h => h) hB118 1 rfl (by decide) (by decide) hbs (x := 3100) (by decide) (by omega) (fun j => by first | trivial | decide | rfl | exact Or.inl rfl | (refine ⟨?_, ?_⟩ <;> decide)) (by rw [hRc]; omega) (by rw [hRs]; omega) dX14_init_79 (fun H_74 hfr_74 hh_74 => ?_)
  have hh_74 : jSt (dC, dI) B base G0 (va_up G_64 H_72.size (some (118, 3100))) EX14_init s.heap ((((((((((0 + 1) + 1) + 1) + 1) + 1) + (1)) + 1) + (1)) + 1) + 1) ((((((((((0 + 4000) + 20000) + 100000) + 3300) + 4) + (16)) + 4) + (16)) + 3100) + 3100) [(H_45.size, 0, 3, .int qc_52), (H_45.size, 0, 0, .ref xa_52), (H_31.size, 0, 3, .int qc_38), (H_31.size, 0, 0, .ref xa_38)] [] [(jFz9, jDZ dC dI G_64)] H_74 locs_72 := hh_74
  have hZ_74 : jN14 G_64 (va_up G_64 H_72.size (some (118, 3100))) := jN14.new (by decide)
  have hN_74 : (jNk [1, 2, 3, 4, 5, 6, 7, 8, 9, 10, 11, 12, 13]) G_64 (va_up G_64 H_72.size (some (118, 3100))) := jNk.new (by decide)
  have hgn_74 : (va_up G_64 H_72.size (some (118, 3100))) H_72.size = some (118, 3100) := jUp_self
  have hle_74 : jLe G_64 (va_up G_64 H_72.size (some (118, 3100))) := jLe.new hh_72.2.1.fresh
  have hke_74 : jKe G_64 (va_up G_64 H_72.size (some (118, 3100))) H_72 H_74 := jKe.new hfr_74
  have hsy_74 : s.heap.size ≤ H_72.size := hh_72.1.1
  generalize (va_up G_64 H_72.size (some (118, 3100))) = G_74 at hN_74 hgn_74 hle_74 hke_74 hh_74 hZ_74
  clear hh_72
  have hNn_74 : (jNk [1, 2, 3, 4, 5, 6, 7, 8, 9, 10, 11, 12, 13]) G0 G_74 := (hNn_64).tr hN_74
  have hg_75 := hle_74 _ _ hg_65
  have hg_76 := hle_74 _ _ hg_66
  have hkp_77 := hkp_73.tr hke_74
  have hraw_78n := hke_74.nr hraw_72.lt hraw_68n
  have hraw_78 := hraw_72.kept (hke_74.1 _ hraw_72.lt)
  have hz14_74 : jN14 G0 G_74 := (hz14_64).tr hZ_74
  have hd_79 := jDZ.grow (hh_74.iv 0 rfl) hle_74 hZ_74
  have hh_80 := hh_74.sub (L1 := [(H_45.size, 0, 3, .int qc_52), (H_45.size, 0, 0, .ref xa_52), (H_31.size, 0, 3, .int qc_38), (H_31.size, 0, 0, .ref xa_38)]) [0, 1, 2, 3] rfl (M1 := []) [] rfl (I1 := []) [] rfl
  clear hh_74
  have hh_81 := hh_80.addI (jDZ.ie hd_79)
  clear hh_80
  refine j7_putRF hx hb hown hK hh_81 hB hAp hraw_78 hraw_78n hbr0 (C := RX14) (T := TX14) (N := 74) rfl (i := 18) (by decide) (Nat.le_of_ble_eq_true rfl) hly_16_18 rfl hin2 rfl hlk_40 (ty := (.array .int)) (v := .ref H_72.size) (by decide +kernel) rfl rfl dX14_init_81 (fun H_82 locs_82 hraw_82 hr_82 hh_82 => ?_)
  have hraw_82 : va_at (dC, dI) vwCl (r0, .inr (16, [.ref s.heap.size, .int 0, .ref H_7.size, .int 0, .int 0, .ref H_15.size, .int 0, .int 0, .int 0, .ref H_23.size, .int 0, .int 0, .int 0, .ref H_31.size, .ref H_45.size, .int (-1), .int 0, .ref H_62.size, .ref H_72.size, .null, .null, .null, .null, .null, .null, .null, .int 0, .null, .int 0, .int 0, .int 0, .int 0, .int 0, .int 0, .int 0, .int 0, .int 0, .int 0, .null, .int 0, .int 0, .null, .int 0, .null, .int 0, .null, .null, .null, .int 0, .null, .null, .null, .null, .null, .null, .null, .null, .null, .null, .null, .null, .null, .null, .null, .int 0, .int 0, .int 0, .null, .null, .null, .int 0, .null, .null, .null])) H_82 := hraw_82
  have hkp_83 := hkp_77.put hr_82
  clear hh_81
  refine lv_aload_n hx hb dX14_init_84 rfl (lv_at hl 0 rfl) ?_
  refine lv_sipush (v := 3100) hx hb dX14_init_85 (by decide) ?_
  clear hsz_74 htt_74
  have hsz_84 := hh_82.2.2.2.2.2.1
  have htt_84 := hh_82.2.2.2.2.2.2.1
  refine j7_newiK hx hb hK hh_82 hB (atype := .int) (ty := .int) (htw (.arrayClass .int) (jWr_3 _ (List.mem_of_getElem? (i := 20) rfl))) rfl rfl (fun _ h => h) hB119 1 rfl (by decide) (by decide) hbs (x := 3100) (by decide) (by omega) (fun j => by first | trivial | decide | rfl | exact Or.inl rfl | (refine ⟨?_, ?_⟩ <;> decide)) (by rw [hRc]; omega) (by rw [hRs]; omega) dX14_init_88 (fun H_84 hfr_84 hh_84 => ?_)
  have hh_84 : jSt (dC, dI) B base G0 (va_up G_74 H_82.size (some (119, 3100))) EX14_init s.heap (((((((((((0 + 1) + 1) + 1) + 1) + 1) + (1)) + 1) + (1)) + 1) + 1) + 1) (((((((((((0 + 4000) + 20000) + 100000) + 3300) + 4) + (16)) + 4) + (16)) + 3100) + 3100) + 3100) [(H_45.size, 0, 3, .int qc_52), (H_45.size, 0, 0, .ref xa_52), (H_31.size, 0, 3, .int qc_38), (H_31.size, 0, 0, .ref xa_38)] [] [(jFz9, jDZ dC dI G_74)] H_84 locs_82 := hh_84
  have hZ_84 : jN14 G_74 (va_up G_74 H_82.size (some (119, 3100))) := jN14.new (by decide)
  have hN_84 : (jNk [1, 2, 3, 4, 5, 6, 7, 8, 9, 10, 11, 12, 13]) G_74 (va_up G_74 H_82.size (some (119, 3100))) := jNk.new (by decide)
  have hgn_84 : (va_up G_74 H_82.size (some (119, 3100))) H_82.size = some (119, 3100) := jUp_self
  have hle_84 : jLe G_74 (va_up G_74 H_82.size (some (119, 3100))) := jLe.new hh_82.2.1.fresh
  have hke_84 : jKe G_74 (va_up G_74 H_82.size (some (119, 3100))) H_82 H_84 := jKe.new hfr_84
  have hsy_84 : s.heap.size ≤ H_82.size := hh_82.1.1
  generalize (va_up G_74 H_82.size (some (119, 3100))) = G_84 at hN_84 hgn_84 hle_84 hke_84 hh_84 hZ_84
  clear hh_82
  have hNn_84 : (jNk [1, 2, 3, 4, 5, 6, 7, 8, 9, 10, 11, 12, 13]) G0 G_84 := (hNn_74).tr hN_84
  have hg_85 := hle_84 _ _ hg_75
  have hg_86 := hle_84 _ _ hg_76
  have hkp_87 := hkp_83.tr hke_84
  have hraw_88n := hke_84.nr hraw_82.lt hraw_78n
  have hraw_88 := hraw_82.kept (hke_84.1 _ hraw_82.lt)
  have hz14_84 : jN14 G0 G_84 := (hz14_74).tr hZ_84
  have hd_89 := jDZ.grow (hh_84.iv 0 rfl) hle_84 hZ_84
  have hh_90 := hh_84.sub (L1 := [(H_45.size, 0, 3, .int qc_52), (H_45.size, 0, 0, .ref xa_52), (H_31.size, 0, 3, .int qc_38), (H_31.size, 0, 0, .ref xa_38)]) [0, 1, 2, 3] rfl (M1 := []) [] rfl (I1 := []) [] rfl
  clear hh_84
  have hh_91 := hh_90.addI (jDZ.ie hd_89)
  clear hh_90
  refine j7_putRF hx hb hown hK hh_91 hB hAp hraw_88 hraw_88n hbr0 (C := RX14) (T := TX14) (N := 74) rfl (i := 19) (by decide) (Nat.le_of_ble_eq_true rfl) hly_16_19 rfl hin2 rfl hlk_43 (ty := (.array .int)) (v := .ref H_82.size) (by decide +kernel) rfl rfl dX14_init_90 (fun H_92 locs_92 hraw_92 hr_92 hh_92 => ?_)
  have hraw_92 : va_at (dC, dI) vwCl (r0, .inr (16, [.ref s.heap.size, .int 0, .ref H_7.size, .int 0, .int 0, .ref H_15.size, .int 0, .int 0, .int 0, .ref H_23.size, .int 0, .int 0, .int 0, .ref H_31.size, .ref H_45.size, .int (-1), .int 0, .ref H_62.size, .ref H_72.size, .ref H_82.size, .null, .null, .null, .null, .null, .null, .int 0, .null, .int 0, .int 0, .int 0, .int 0, .int 0, .int 0, .int 0, .int 0, .int 0, .int 0, .null, .int 0, .int 0, .null, .int 0, .null, .int 0, .null, .null, .null, .int 0, .null, .null, .null, .null, .null, .null, .null, .null, .null, .null, .null, .null, .null, .null, .null, .int 0, .int 0, .int 0, .null, .null, .null, .int 0, .null, .null, .null])) H_92 := hraw_92
  have hkp_93 := hkp_87.put hr_92
  clear hh_91
  refine lv_aload_n hx hb dX14_init_93 rfl (lv_at hl 0 rfl) ?_
  refine lv_sipush (v := 3100) hx hb dX14_init_94 (by decide) ?_
  clear hsz_84 htt_84
  have hsz_94 := hh_92.2.2.2.2.2.1
  have htt_94 := hh_92.2.2.2.2.2.2.1
  refine j7_newiK hx hb hK hh_92 hB (atype := .int) (ty := .int) (htw (.arrayClass .int) (jWr_3 _ (List.mem_of_getElem? (i := 20) rfl))) rfl rfl (fun _ h => h) hB120 1 rfl (by decide) (by decide) hbs (x := 3100) (by decide) (by omega) (fun j => by first | trivial | decide | rfl | exact Or.inl rfl | (refine ⟨?_, ?_⟩ <;> decide)) (by rw [hRc]; omega) (by rw [hRs]; omega) dX14_init_97 (fun H_94 hfr_94 hh_94 => ?_)
  have hh_94 : jSt (dC, dI) B base G0 (va_up G_84 H_92.size (some (120, 3100))) EX14_init s.heap ((((((((((((0 + 1) + 1) + 1) + 1) + 1) + (1)) + 1) + (1)) + 1) + 1) + 1) + 1) ((((((((((((0 + 4000) + 20000) + 100000) + 3300) + 4) + (16)) + 4) + (16)) + 3100) + 3100) + 3100) + 3100) [(H_45.size, 0, 3, .int qc_52), (H_45.size, 0, 0, .ref xa_52), (H_31.size, 0, 3, .int qc_38), (H_31.size, 0, 0, .ref xa_38)] [] [(jFz9, jDZ dC dI G_84)] H_94 locs_92 := hh_94
  have hZ_94 : jN14 G_84 (va_up G_84 H_92.size (some (120, 3100))) := jN14.new (by decide)
  have hN_94 : (jNk [1, 2, 3, 4, 5, 6, 7, 8, 9, 10, 11, 12, 13]) G_84 (va_up G_84 H_92.size (some (120, 3100))) := jNk.new (by decide)
  have hgn_94 : (va_up G_84 H_92.size (some (120, 3100))) H_92.size = some (120, 3100) := jUp_self
  have hle_94 : jLe G_84 (va_up G_84 H_92.size (some (120, 3100))) := jLe.new hh_92.2.1.fresh
  have hke_94 : jKe G_84 (va_up G_84 H_92.size (some (120, 3100))) H_92 H_94 := jKe.new hfr_94
  have hsy_94 : s.heap.size ≤ H_92.size := hh_92.1.1
  generalize (va_up G_84 H_92.size (some (120, 3100))) = G_94 at hN_94 hgn_94 hle_94 hke_94 hh_94 hZ_94
  clear hh_92
  have hNn_94 : (jNk [1, 2, 3, 4, 5, 6, 7, 8, 9, 10, 11, 12, 13]) G0 G_94 := (hNn_84).tr hN_94
  have hg_95 := hle_94 _ _ hg_85
  have hg_96 := hle_94 _ _ hg_86
  have hkp_97 := hkp_93.tr hke_94
  have hraw_98n := hke_94.nr hraw_92.lt hraw_88n
  have hraw_98 := hraw_92.kept (hke_94.1 _ hraw_92.lt)
  have hz14_94 : jN14 G0 G_94 := (hz14_84).tr hZ_94
  have hd_99 := jDZ.grow (hh_94.iv 0 rfl) hle_94 hZ_94
  have hh_100 := hh_94.sub (L1 := [(H_45.size, 0, 3, .int qc_52), (H_45.size, 0, 0, .ref xa_52), (H_31.size, 0, 3, .int qc_38), (H_31.size, 0, 0, .ref xa_38)]) [0, 1, 2, 3] rfl (M1 := []) [] rfl (I1 := []) [] rfl
  clear hh_94
  have hh_101 := hh_100.addI (jDZ.ie hd_99)
  clear hh_100
  refine j7_putRF hx hb hown hK hh_101 hB hAp hraw_98 hraw_98n hbr0 (C := RX14) (T := TX14) (N := 74) rfl (i := 20) (by decide) (Nat.le_of_ble_eq_true rfl) hly_16_20 rfl hin2 rfl hlk_46 (ty := (.array .int)) (v := .ref H_92.size) (by decide +kernel) rfl rfl dX14_init_99 (fun H_102 locs_102 hraw_102 hr_102 hh_102 => ?_)
  have hraw_102 : va_at (dC, dI) vwCl (r0, .inr (16, [.ref s.heap.size, .int 0, .ref H_7.size, .int 0, .int 0, .ref H_15.size, .int 0, .int 0, .int 0, .ref H_23.size, .int 0, .int 0, .int 0, .ref H_31.size, .ref H_45.size, .int (-1), .int 0, .ref H_62.size, .ref H_72.size, .ref H_82.size, .ref H_92.size, .null, .null, .null, .null, .null, .int 0, .null, .int 0, .int 0, .int 0, .int 0, .int 0, .int 0, .int 0, .int 0, .int 0, .int 0, .null, .int 0, .int 0, .null, .int 0, .null, .int 0, .null, .null, .null, .int 0, .null, .null, .null, .null, .null, .null, .null, .null, .null, .null, .null, .null, .null, .null, .null, .int 0, .int 0, .int 0, .null, .null, .null, .int 0, .null, .null, .null])) H_102 := hraw_102
  have hkp_103 := hkp_97.put hr_102
  clear hh_101
  refine lv_aload_n hx hb dX14_init_102 rfl (lv_at hl 0 rfl) ?_
  refine lv_sipush (v := 3100) hx hb dX14_init_103 (by decide) ?_
  clear hsz_94 htt_94
  have hsz_104 := hh_102.2.2.2.2.2.1
  have htt_104 := hh_102.2.2.2.2.2.2.1
  refine j7_newiK hx hb hK hh_102 hB (atype := .int) (ty := .int) (htw (.arrayClass .int) (jWr_3 _ (List.mem_of_getElem? (i := 20) rfl))) rfl rfl (fun _ h => h) hB121 1 rfl (by decide) (by decide) hbs (x := 3100) (by decide) (by omega) (fun j => by first | trivial | decide | rfl | exact Or.inl rfl | (refine ⟨?_, ?_⟩ <;> decide)) (by rw [hRc]; omega) (by rw [hRs]; omega) dX14_init_106 (fun H_104 hfr_104 hh_104 => ?_)
  have hh_104 : jSt (dC, dI) B base G0 (va_up G_94 H_102.size (some (121, 3100))) EX14_init s.heap (((((((((((((0 + 1) + 1) + 1) + 1) + 1) + (1)) + 1) + (1)) + 1) + 1) + 1) + 1) + 1) (((((((((((((0 + 4000) + 20000) + 100000) + 3300) + 4) + (16)) + 4) + (16)) + 3100) + 3100) + 3100) + 3100) + 3100) [(H_45.size, 0, 3, .int qc_52), (H_45.size, 0, 0, .ref xa_52), (H_31.size, 0, 3, .int qc_38), (H_31.size, 0, 0, .ref xa_38)] [] [(jFz9, jDZ dC dI G_94)] H_104 locs_102 := hh_104
  have hZ_104 : jN14 G_94 (va_up G_94 H_102.size (some (121, 3100))) := jN14.new (by decide)
  have hN_104 : (jNk [1, 2, 3, 4, 5, 6, 7, 8, 9, 10, 11, 12, 13]) G_94 (va_up G_94 H_102.size (some (121, 3100))) := jNk.new (by decide)
  have hgn_104 : (va_up G_94 H_102.size (some (121, 3100))) H_102.size = some (121, 3100) := jUp_self
  have hle_104 : jLe G_94 (va_up G_94 H_102.size (some (121, 3100))) := jLe.new hh_102.2.1.fresh
  have hke_104 : jKe G_94 (va_up G_94 H_102.size (some (121, 3100))) H_102 H_104 := jKe.new hfr_104
  have hsy_104 : s.heap.size ≤ H_102.size := hh_102.1.1
  generalize (va_up G_94 H_102.size (some (121, 3100))) = G_104 at hN_104 hgn_104 hle_104 hke_104 hh_104 hZ_104
  clear hh_102
  have hNn_104 : (jNk [1, 2, 3, 4, 5, 6, 7, 8, 9, 10, 11, 12, 13]) G0 G_104 := (hNn_94).tr hN_104
  have hg_105 := hle_104 _ _ hg_95
  have hg_106 := hle_104 _ _ hg_96
  have hkp_107 := hkp_103.tr hke_104
  have hraw_108n := hke_104.nr hraw_102.lt hraw_98n
  have hraw_108 := hraw_102.kept (hke_104.1 _ hraw_102.lt)
  have hz14_104 : jN14 G0 G_104 := (hz14_94).tr hZ_104
  have hd_109 := jDZ.grow (hh_104.iv 0 rfl) hle_104 hZ_104
  have hh_110 := hh_104.sub (L1 := [(H_45.size, 0, 3, .int qc_52), (H_45.size, 0, 0, .ref xa_52), (H_31.size, 0, 3, .int qc_38), (H_31.size, 0, 0, .ref xa_38)]) [0, 1, 2, 3] rfl (M1 := []) [] rfl (I1 := []) [] rfl
  clear hh_104
  have hh_111 := hh_110.addI (jDZ.ie hd_109)
  clear hh_110
  refine j7_putRF hx hb hown hK hh_111 hB hAp hraw_108 hraw_108n hbr0 (C := RX14) (T := TX14) (N := 74) rfl (i := 21) (by decide) (Nat.le_of_ble_eq_true rfl) hly_16_21 rfl hin2 rfl hlk_49 (ty := (.array .int)) (v := .ref H_102.size) (by decide +kernel) rfl rfl dX14_init_108 (fun H_112 locs_112 hraw_112 hr_112 hh_112 => ?_)
  have hraw_112 : va_at (dC, dI) vwCl (r0, .inr (16, [.ref s.heap.size, .int 0, .ref H_7.size, .int 0, .int 0, .ref H_15.size, .int 0, .int 0, .int 0, .ref H_23.size, .int 0, .int 0, .int 0, .ref H_31.size, .ref H_45.size, .int (-1), .int 0, .ref H_62.size, .ref H_72.size, .ref H_82.size, .ref H_92.size, .ref H_102.size, .null, .null, .null, .null, .int 0, .null, .int 0, .int 0, .int 0, .int 0, .int 0, .int 0, .int 0, .int 0, .int 0, .int 0, .null, .int 0, .int 0, .null, .int 0, .null, .int 0, .null, .null, .null, .int 0, .null, .null, .null, .null, .null, .null, .null, .null, .null, .null, .null, .null, .null, .null, .null, .int 0, .int 0, .int 0, .null, .null, .null, .int 0, .null, .null, .null])) H_112 := hraw_112
  have hkp_113 := hkp_107.put hr_112
  clear hh_111
  refine lv_aload_n hx hb dX14_init_111 rfl (lv_at hl 0 rfl) ?_
  refine lv_sipush (v := 3100) hx hb dX14_init_112 (by decide) ?_
  clear hsz_104 htt_104
  have hsz_114 := hh_112.2.2.2.2.2.1
  have htt_114 := hh_112.2.2.2.2.2.2.1
  have hsy_114 : s.heap.size ≤ H_112.size := hh_112.1.1
  refine j7_newiR hx hb hK hh_112 hB (atype := .int) (ty := .int) (htw (.arrayClass .int) (jWr_3 _ (List.mem_of_getElem? (i := 20) rfl))) rfl rfl (fun _ h => h) 1 rfl (by decide) (x := 3100) (by decide) (by omega) (by rw [hRc]; omega) (by rw [hRs]; omega) dX14_init_115 (fun H_114 hfr_114 hnr_114 hraw_114 hh_114 => ?_)
  have hlt_115 := hraw_112.lt
  have hraw_114 : va_at (dC, dI) vwCl (H_112.size, .inl (ca 1, 3100, .inl (fun _ => 0))) H_114 := hraw_114
  have hh_114 : jSt (dC, dI) B base G0 G_104 EX14_init s.heap ((((((((((((((0 + 1) + 1) + 1) + 1) + 1) + (1)) + 1) + (1)) + 1) + 1) + 1) + 1) + 1) + 1) ((((((((((((((0 + 4000) + 20000) + 100000) + 3300) + 4) + (16)) + 4) + (16)) + 3100) + 3100) + 3100) + 3100) + 3100) + 3100) [(H_45.size, 0, 3, .int qc_52), (H_45.size, 0, 0, .ref xa_52), (H_31.size, 0, 3, .int qc_38), (H_31.size, 0, 0, .ref xa_38)] [] [(jFz9, jDZ dC dI G_104)] H_114 locs_112 := hh_114
  have hke_114 : jKe G_104 G_104 H_112 H_114 := jKe.raw hfr_114
  have hbr_114 : base ≤ H_112.size := Nat.le_trans hbs hsy_114
  clear hh_112
  have hkp_116 := hkp_113.tr hke_114
  have hraw_117n := hke_114.nr hraw_112.lt hraw_108n
  have hraw_117 := hraw_112.kept (hke_114.1 _ hraw_112.lt)
  have hne_118 : r0 ≠ H_112.size := Nat.ne_of_lt hlt_115
  have hle_119 : jLe G_104 (va_up G_104 H_112.size (some (122, 3100))) := jLe.typ hnr_114
  have hh_119 := hh_114.typ (k := 122) (n := 3100) hB hnr_114 hbr_114 hraw_114.lt (jAr.of hB122 hraw_114 (fun _ _ => by decide))
  have hgn_119 : (va_up G_104 H_112.size (some (122, 3100))) H_112.size = some (122, 3100) := jUp_self
  have hN_119 : (jNk [1, 2, 3, 4, 5, 6, 7, 8, 9, 10, 11, 12, 13]) G_104 (va_up G_104 H_112.size (some (122, 3100))) := jNk.new (by decide)
  have hNn_119 : (jNk [1, 2, 3, 4, 5, 6, 7, 8, 9, 10, 11, 12, 13]) G0 (va_up G_104 H_112.size (some (122, 3100))) := (hNn_104).tr hN_119
  have hkp_120 := hkp_116.typn (t := some (122, 3100)) hsy_114
  have hZ_119 : jN14 G_104 (va_up G_104 H_112.size (some (122, 3100))) := jN14.new (by decide)
  generalize (va_up G_104 H_112.size (some (122, 3100))) = G_119 at hN_119 hNn_119 hgn_119 hle_119 hh_119 hkp_120 hZ_119
  have hg_121 := hle_119 _ _ hg_105
  have hg_122 := hle_119 _ _ hg_106
  have hd_123 := jDZ.grow (hh_119.iv 0 rfl) hle_119 hZ_119
  have hh_124 := hh_119.sub (L1 := [(H_45.size, 0, 3, .int qc_52), (H_45.size, 0, 0, .ref xa_52), (H_31.size, 0, 3, .int qc_38), (H_31.size, 0, 0, .ref xa_38)]) [0, 1, 2, 3] rfl (M1 := []) [] rfl (I1 := []) [] rfl
  clear hh_119
  have hh_125 := hh_124.addI (jDZ.ie hd_123)
  clear hh_124
  have hz14_119 : jN14 G0 G_119 := (hz14_104).tr hZ_119
  have hh_126 := hh_125.moreM (M1 := [(H_112.size, 122, 3100, ca 1, (fun _ => 0))]) (fun q9 h9 => by cases h9 with | head => exact ⟨hgn_119, by decide, by decide, hraw_114⟩ | tail _ h => cases h)
  refine j7_putRF hx hb hown hK hh_126 hB hAp hraw_117 hraw_117n hbr0 (C := RX14) (T := TX14) (N := 74) rfl (i := 22) (by decide) (Nat.le_of_ble_eq_true rfl) hly_16_22 rfl hin2 rfl hlk_52 (ty := (.array .int)) (v := .ref H_112.size) (by decide +kernel) rfl rfl dX14_init_117 (fun H_127 locs_127 hraw_127 hr_127 hh_127 => ?_)
  have hraw_127 : va_at (dC, dI) vwCl (r0, .inr (16, [.ref s.heap.size, .int 0, .ref H_7.size, .int 0, .int 0, .ref H_15.size, .int 0, .int 0, .int 0, .ref H_23.size, .int 0, .int 0, .int 0, .ref H_31.size, .ref H_45.size, .int (-1), .int 0, .ref H_62.size, .ref H_72.size, .ref H_82.size, .ref H_92.size, .ref H_102.size, .ref H_112.size, .null, .null, .null, .int 0, .null, .int 0, .int 0, .int 0, .int 0, .int 0, .int 0, .int 0, .int 0, .int 0, .int 0, .null, .int 0, .int 0, .null, .int 0, .null, .int 0, .null, .null, .null, .int 0, .null, .null, .null, .null, .null, .null, .null, .null, .null, .null, .null, .null, .null, .null, .null, .int 0, .int 0, .int 0, .null, .null, .null, .int 0, .null, .null, .null])) H_127 := hraw_127
  have hkp_128 := hkp_120.put hr_127
  clear hh_126
  refine lv_aload_n hx hb dX14_init_120 rfl (lv_at hl 0 rfl) ?_
  refine lv_sipush (v := 3100) hx hb dX14_init_121 (by decide) ?_
  clear hsz_114 htt_114
  have hsz_129 := hh_127.2.2.2.2.2.1
  have htt_129 := hh_127.2.2.2.2.2.2.1
  have hsy_129 : s.heap.size ≤ H_127.size := hh_127.1.1
  refine j7_newiR hx hb hK hh_127 hB (atype := .int) (ty := .int) (htw (.arrayClass .int) (jWr_3 _ (List.mem_of_getElem? (i := 20) rfl))) rfl rfl (fun _ h => h) 1 rfl (by decide) (x := 3100) (by decide) (by omega) (by rw [hRc]; omega) (by rw [hRs]; omega) dX14_init_124 (fun H_129 hfr_129 hnr_129 hraw_129 hh_129 => ?_)
  have hlt_130 := hraw_127.lt
  have hraw_129 : va_at (dC, dI) vwCl (H_127.size, .inl (ca 1, 3100, .inl (fun _ => 0))) H_129 := hraw_129
  have hh_129 : jSt (dC, dI) B base G0 G_119 EX14_init s.heap (((((((((((((((0 + 1) + 1) + 1) + 1) + 1) + (1)) + 1) + (1)) + 1) + 1) + 1) + 1) + 1) + 1) + 1) (((((((((((((((0 + 4000) + 20000) + 100000) + 3300) + 4) + (16)) + 4) + (16)) + 3100) + 3100) + 3100) + 3100) + 3100) + 3100) + 3100) [(H_45.size, 0, 3, .int qc_52), (H_45.size, 0, 0, .ref xa_52), (H_31.size, 0, 3, .int qc_38), (H_31.size, 0, 0, .ref xa_38)] [(H_112.size, 122, 3100, ca 1, (fun _ => 0))] [(jFz9, jDZ dC dI G_119)] H_129 locs_127 := hh_129
  have hke_129 : jKe G_119 G_119 H_127 H_129 := jKe.raw hfr_129
  have hbr_129 : base ≤ H_127.size := Nat.le_trans hbs hsy_129
  clear hh_127
  have hkp_131 := hkp_128.tr hke_129
  have hraw_132n := hke_129.nr hraw_127.lt hraw_117n
  have hraw_132 := hraw_127.kept (hke_129.1 _ hraw_127.lt)
  have hne_133 : r0 ≠ H_127.size := Nat.ne_of_lt hlt_130
  have hle_134 : jLe G_119 (va_up G_119 H_127.size (some (123, 3100))) := jLe.typ hnr_129
  have hh_134 := hh_129.typ (k := 123) (n := 3100) hB hnr_129 hbr_129 hraw_129.lt (jAr.of hB123 hraw_129 (fun _ _ => by decide))
  have hgn_134 : (va_up G_119 H_127.size (some (123, 3100))) H_127.size = some (123, 3100) := jUp_self
  have hN_134 : (jNk [1, 2, 3, 4, 5, 6, 7, 8, 9, 10, 11, 12, 13]) G_119 (va_up G_119 H_127.size (some (123, 3100))) := jNk.new (by decide)
  have hNn_134 : (jNk [1, 2, 3, 4, 5, 6, 7, 8, 9, 10, 11, 12, 13]) G0 (va_up G_119 H_127.size (some (123, 3100))) := (hNn_119).tr hN_134
  have hkp_135 := hkp_131.typn (t := some (123, 3100)) hsy_129
  have hZ_134 : jN14 G_119 (va_up G_119 H_127.size (some (123, 3100))) := jN14.new (by decide)
  generalize (va_up G_119 H_127.size (some (123, 3100))) = G_134 at hN_134 hNn_134 hgn_134 hle_134 hh_134 hkp_135 hZ_134
  have hg_136 := hle_134 _ _ hg_121
  have hg_137 := hle_134 _ _ hg_122
  have hd_138 := jDZ.grow (hh_134.iv 0 rfl) hle_134 hZ_134
  have hh_139 := hh_134.sub (L1 := [(H_45.size, 0, 3, .int qc_52), (H_45.size, 0, 0, .ref xa_52), (H_31.size, 0, 3, .int qc_38), (H_31.size, 0, 0, .ref xa_38)]) [0, 1, 2, 3] rfl (M1 := [(H_112.size, 122, 3100, ca 1, (fun _ => 0))]) [0] rfl (I1 := []) [] rfl
  clear hh_134
  have hh_140 := hh_139.addI (jDZ.ie hd_138)
  clear hh_139
  have hz14_134 : jN14 G0 G_134 := (hz14_119).tr hZ_134
  have hh_141 := hh_140.moreM (M1 := [(H_127.size, 123, 3100, ca 1, (fun _ => 0))]) (fun q9 h9 => by cases h9 with | head => exact ⟨hgn_134, by decide, by decide, hraw_129⟩ | tail _ h => cases h)
  refine j7_putRF hx hb hown hK hh_141 hB hAp hraw_132 hraw_132n hbr0 (C := RX14) (T := TX14) (N := 74) rfl (i := 23) (by decide) (Nat.le_of_ble_eq_true rfl) hly_16_23 rfl hin2 rfl hlk_55 (ty := (.array .int)) (v := .ref H_127.size) (by decide +kernel) rfl rfl dX14_init_126 (fun H_142 locs_142 hraw_142 hr_142 hh_142 => ?_)
  have hraw_142 : va_at (dC, dI) vwCl (r0, .inr (16, [.ref s.heap.size, .int 0, .ref H_7.size, .int 0, .int 0, .ref H_15.size, .int 0, .int 0, .int 0, .ref H_23.size, .int 0, .int 0, .int 0, .ref H_31.size, .ref H_45.size, .int (-1), .int 0, .ref H_62.size, .ref H_72.size, .ref H_82.size, .ref H_92.size, .ref H_102.size, .ref H_112.size, .ref H_127.size, .null, .null, .int 0, .null, .int 0, .int 0, .int 0, .int 0, .int 0, .int 0, .int 0, .int 0, .int 0, .int 0, .null, .int 0, .int 0, .null, .int 0, .null, .int 0, .null, .null, .null, .int 0, .null, .null, .null, .null, .null, .null, .null, .null, .null, .null, .null, .null, .null, .null, .null, .int 0, .int 0, .int 0, .null, .null, .null, .int 0, .null, .null, .null])) H_142 := hraw_142
  have hkp_143 := hkp_135.put hr_142
  clear hh_141
  refine lv_aload_n hx hb dX14_init_129 rfl (lv_at hl 0 rfl) ?_
  refine lv_sipush (v := 3100) hx hb dX14_init_130 (by decide) ?_
  clear hsz_129 htt_129
  have hsz_144 := hh_142.2.2.2.2.2.1
  have htt_144 := hh_142.2.2.2.2.2.2.1
  refine j7_newiK hx hb hK hh_142 hB (atype := .boolean) (ty := .boolean) (htw (.arrayClass .boolean) (jWr_11 _ (List.mem_of_getElem? (i := 11) rfl))) rfl rfl (fun _ h => h) hB124 3 rfl (by decide) (by decide) hbs (x := 3100) (by decide) (by omega) (fun j => by first | trivial | decide | rfl | exact Or.inl rfl | (refine ⟨?_, ?_⟩ <;> decide)) (by rw [hRc]; omega) (by rw [hRs]; omega) dX14_init_133 (fun H_144 hfr_144 hh_144 => ?_)
  have hh_144 : jSt (dC, dI) B base G0 (va_up G_134 H_142.size (some (124, 3100))) EX14_init s.heap ((((((((((((((((0 + 1) + 1) + 1) + 1) + 1) + (1)) + 1) + (1)) + 1) + 1) + 1) + 1) + 1) + 1) + 1) + 1) ((((((((((((((((0 + 4000) + 20000) + 100000) + 3300) + 4) + (16)) + 4) + (16)) + 3100) + 3100) + 3100) + 3100) + 3100) + 3100) + 3100) + 3100) [(H_45.size, 0, 3, .int qc_52), (H_45.size, 0, 0, .ref xa_52), (H_31.size, 0, 3, .int qc_38), (H_31.size, 0, 0, .ref xa_38)] [(H_127.size, 123, 3100, ca 1, (fun _ => 0)), (H_112.size, 122, 3100, ca 1, (fun _ => 0))] [(jFz9, jDZ dC dI G_134)] H_144 locs_142 := hh_144
  have hZ_144 : jN14 G_134 (va_up G_134 H_142.size (some (124, 3100))) := jN14.new (by decide)
  have hN_144 : (jNk [1, 2, 3, 4, 5, 6, 7, 8, 9, 10, 11, 12, 13]) G_134 (va_up G_134 H_142.size (some (124, 3100))) := jNk.new (by decide)
  have hgn_144 : (va_up G_134 H_142.size (some (124, 3100))) H_142.size = some (124, 3100) := jUp_self
  have hle_144 : jLe G_134 (va_up G_134 H_142.size (some (124, 3100))) := jLe.new hh_142.2.1.fresh
  have hke_144 : jKe G_134 (va_up G_134 H_142.size (some (124, 3100))) H_142 H_144 := jKe.new hfr_144
  have hsy_144 : s.heap.size ≤ H_142.size := hh_142.1.1
  generalize (va_up G_134 H_142.size (some (124, 3100))) = G_144 at hN_144 hgn_144 hle_144 hke_144 hh_144 hZ_144
  clear hh_142
  have hNn_144 : (jNk [1, 2, 3, 4, 5, 6, 7, 8, 9, 10, 11, 12, 13]) G0 G_144 := (hNn_134).tr hN_144
  have hg_145 := hle_144 _ _ hg_136
  have hg_146 := hle_144 _ _ hg_137
  have hkp_147 := hkp_143.tr hke_144
  have hraw_148n := hke_144.nr hraw_142.lt hraw_132n
  have hraw_148 := hraw_142.kept (hke_144.1 _ hraw_142.lt)
  have hz14_144 : jN14 G0 G_144 := (hz14_134).tr hZ_144
  have hd_149 := jDZ.grow (hh_144.iv 0 rfl) hle_144 hZ_144
  have hh_150 := hh_144.sub (L1 := [(H_45.size, 0, 3, .int qc_52), (H_45.size, 0, 0, .ref xa_52), (H_31.size, 0, 3, .int qc_38), (H_31.size, 0, 0, .ref xa_38)]) [0, 1, 2, 3] rfl (M1 := [(H_127.size, 123, 3100, ca 1, (fun _ => 0)), (H_112.size, 122, 3100, ca 1, (fun _ => 0))]) [0, 1] rfl (I1 := []) [] rfl
  clear hh_144
  have hh_151 := hh_150.addI (jDZ.ie hd_149)
  clear hh_150
  refine j7_putRF hx hb hown hK hh_151 hB hAp hraw_148 hraw_148n hbr0 (C := RX14) (T := TX14) (N := 74) rfl (i := 24) (by decide) (Nat.le_of_ble_eq_true rfl) hly_16_24 rfl hin2 rfl hlk_58 (ty := (.array .boolean)) (v := .ref H_142.size) (by decide +kernel) rfl rfl dX14_init_135 (fun H_152 locs_152 hraw_152 hr_152 hh_152 => ?_)
  have hraw_152 : va_at (dC, dI) vwCl (r0, .inr (16, [.ref s.heap.size, .int 0, .ref H_7.size, .int 0, .int 0, .ref H_15.size, .int 0, .int 0, .int 0, .ref H_23.size, .int 0, .int 0, .int 0, .ref H_31.size, .ref H_45.size, .int (-1), .int 0, .ref H_62.size, .ref H_72.size, .ref H_82.size, .ref H_92.size, .ref H_102.size, .ref H_112.size, .ref H_127.size, .ref H_142.size, .null, .int 0, .null, .int 0, .int 0, .int 0, .int 0, .int 0, .int 0, .int 0, .int 0, .int 0, .int 0, .null, .int 0, .int 0, .null, .int 0, .null, .int 0, .null, .null, .null, .int 0, .null, .null, .null, .null, .null, .null, .null, .null, .null, .null, .null, .null, .null, .null, .null, .int 0, .int 0, .int 0, .null, .null, .null, .int 0, .null, .null, .null])) H_152 := hraw_152
  have hkp_153 := hkp_147.put hr_152
  clear hh_151
  refine lv_aload_n hx hb dX14_init_138 rfl (lv_at hl 0 rfl) ?_
  refine lv_sipush (v := 3100) hx hb dX14_init_139 (by decide) ?_
  clear hsz_144 htt_144
  have hsz_154 := hh_152.2.2.2.2.2.1
  have htt_154 := hh_152.2.2.2.2.2.2.1
  refine j7_newiK hx hb hK hh_152 hB (atype := .int) (ty := .int) (htw (.arrayClass .int) (jWr_3 _ (List.mem_of_getElem? (i := 20) rfl))) rfl rfl (fun _ h => h) hB125 1 rfl (by decide) (by decide) hbs (x := 3100) (by decide) (by omega) (fun j => by first | trivial | decide | rfl | exact Or.inl rfl | (refine ⟨?_, ?_⟩ <;> decide)) (by rw [hRc]; omega) (by rw [hRs]; omega) dX14_init_142 (fun H_154 hfr_154 hh_154 => ?_)
  have hh_154 : jSt (dC, dI) B base G0 (va_up G_144 H_152.size (some (125, 3100))) EX14_init s.heap (((((((((((((((((0 + 1) + 1) + 1) + 1) + 1) + (1)) + 1) + (1)) + 1) + 1) + 1) + 1) + 1) + 1) + 1) + 1) + 1) (((((((((((((((((0 + 4000) + 20000) + 100000) + 3300) + 4) + (16)) + 4) + (16)) + 3100) + 3100) + 3100) + 3100) + 3100) + 3100) + 3100) + 3100) + 3100) [(H_45.size, 0, 3, .int qc_52), (H_45.size, 0, 0, .ref xa_52), (H_31.size, 0, 3, .int qc_38), (H_31.size, 0, 0, .ref xa_38)] [(H_127.size, 123, 3100, ca 1, (fun _ => 0)), (H_112.size, 122, 3100, ca 1, (fun _ => 0))] [(jFz9, jDZ dC dI G_144)] H_154 locs_152 := hh_154
  have hZ_154 : jN14 G_144 (va_up G_144 H_152.size (some (125, 3100))) := jN14.new (by decide)
  have hN_154 : (jNk [1, 2, 3, 4, 5, 6, 7, 8, 9, 10, 11, 12, 13]) G_144 (va_up G_144 H_152.size (some (125, 3100))) := jNk.new (by decide)
  have hgn_154 : (va_up G_144 H_152.size (some (125, 3100))) H_152.size = some (125, 3100) := jUp_self
  have hle_154 : jLe G_144 (va_up G_144 H_152.size (some (125, 3100))) := jLe.new hh_152.2.1.fresh
  have hke_154 : jKe G_144 (va_up G_144 H_152.size (some (125, 3100))) H_152 H_154 := jKe.new hfr_154
  have hsy_154 : s.heap.size ≤ H_152.size := hh_152.1.1
  generalize (va_up G_144 H_152.size (some (125, 3100))) = G_154 at hN_154 hgn_154 hle_154 hke_154 hh_154 hZ_154
  clear hh_152
  have hNn_154 : (jNk [1, 2, 3, 4, 5, 6, 7, 8, 9, 10, 11, 12, 13]) G0 G_154 := (hNn_144).tr hN_154
  have hg_155 := hle_154 _ _ hg_145
  have hg_156 := hle_154 _ _ hg_146
  have hkp_157 := hkp_153.tr hke_154
  have hraw_158n := hke_154.nr hraw_152.lt hraw_148n
  have hraw_158 := hraw_152.kept (hke_154.1 _ hraw_152.lt)
  have hz14_154 : jN14 G0 G_154 := (hz14_144).tr hZ_154
  have hd_159 := jDZ.grow (hh_154.iv 0 rfl) hle_154 hZ_154
  have hh_160 := hh_154.sub (L1 := [(H_45.size, 0, 3, .int qc_52), (H_45.size, 0, 0, .ref xa_52), (H_31.size, 0, 3, .int qc_38), (H_31.size, 0, 0, .ref xa_38)]) [0, 1, 2, 3] rfl (M1 := [(H_127.size, 123, 3100, ca 1, (fun _ => 0)), (H_112.size, 122, 3100, ca 1, (fun _ => 0))]) [0, 1] rfl (I1 := []) [] rfl
  clear hh_154
  have hh_161 := hh_160.addI (jDZ.ie hd_159)
  clear hh_160
  refine j7_putRF hx hb hown hK hh_161 hB hAp hraw_158 hraw_158n hbr0 (C := RX14) (T := TX14) (N := 74) rfl (i := 25) (by decide) (Nat.le_of_ble_eq_true rfl) hly_16_25 rfl hin2 rfl hlk_62 (ty := (.array .int)) (v := .ref H_152.size) (by decide +kernel) rfl rfl dX14_init_144 (fun H_162 locs_162 hraw_162 hr_162 hh_162 => ?_)
  have hraw_162 : va_at (dC, dI) vwCl (r0, .inr (16, [.ref s.heap.size, .int 0, .ref H_7.size, .int 0, .int 0, .ref H_15.size, .int 0, .int 0, .int 0, .ref H_23.size, .int 0, .int 0, .int 0, .ref H_31.size, .ref H_45.size, .int (-1), .int 0, .ref H_62.size, .ref H_72.size, .ref H_82.size, .ref H_92.size, .ref H_102.size, .ref H_112.size, .ref H_127.size, .ref H_142.size, .ref H_152.size, .int 0, .null, .int 0, .int 0, .int 0, .int 0, .int 0, .int 0, .int 0, .int 0, .int 0, .int 0, .null, .int 0, .int 0, .null, .int 0, .null, .int 0, .null, .null, .null, .int 0, .null, .null, .null, .null, .null, .null, .null, .null, .null, .null, .null, .null, .null, .null, .null, .int 0, .int 0, .int 0, .null, .null, .null, .int 0, .null, .null, .null])) H_162 := hraw_162
  have hkp_163 := hkp_157.put hr_162
  clear hh_161
  refine lv_aload_n hx hb dX14_init_147 rfl (lv_at hl 0 rfl) ?_
  refine lv_sipush (v := 3300) hx hb dX14_init_148 (by decide) ?_
  clear hsz_154 htt_154
  have hsz_164 := hh_162.2.2.2.2.2.1
  have htt_164 := hh_162.2.2.2.2.2.2.1
  refine j7_newiK hx hb hK hh_162 hB (atype := .int) (ty := .int) (htw (.arrayClass .int) (jWr_3 _ (List.mem_of_getElem? (i := 20) rfl))) rfl rfl (fun _ h => h) hB127 1 rfl (by decide) (by decide) hbs (x := 3300) (by decide) (by omega) (fun j => by first | trivial | decide | rfl | exact Or.inl rfl | (refine ⟨?_, ?_⟩ <;> decide)) (by rw [hRc]; omega) (by rw [hRs]; omega) dX14_init_151 (fun H_164 hfr_164 hh_164 => ?_)
  have hh_164 : jSt (dC, dI) B base G0 (va_up G_154 H_162.size (some (127, 3300))) EX14_init s.heap ((((((((((((((((((0 + 1) + 1) + 1) + 1) + 1) + (1)) + 1) + (1)) + 1) + 1) + 1) + 1) + 1) + 1) + 1) + 1) + 1) + 1) ((((((((((((((((((0 + 4000) + 20000) + 100000) + 3300) + 4) + (16)) + 4) + (16)) + 3100) + 3100) + 3100) + 3100) + 3100) + 3100) + 3100) + 3100) + 3100) + 3300) [(H_45.size, 0, 3, .int qc_52), (H_45.size, 0, 0, .ref xa_52), (H_31.size, 0, 3, .int qc_38), (H_31.size, 0, 0, .ref xa_38)] [(H_127.size, 123, 3100, ca 1, (fun _ => 0)), (H_112.size, 122, 3100, ca 1, (fun _ => 0))] [(jFz9, jDZ dC dI G_154)] H_164 locs_162 := hh_164
  have hZ_164 : jN14 G_154 (va_up G_154 H_162.size (some (127, 3300))) := jN14.new (by decide)
  have hN_164 : (jNk [1, 2, 3, 4, 5, 6, 7, 8, 9, 10, 11, 12, 13]) G_154 (va_up G_154 H_162.size (some (127, 3300))) := jNk.new (by decide)
  have hgn_164 : (va_up G_154 H_162.size (some (127, 3300))) H_162.size = some (127, 3300) := jUp_self
  have hle_164 : jLe G_154 (va_up G_154 H_162.size (some (127, 3300))) := jLe.new hh_162.2.1.fresh
  have hke_164 : jKe G_154 (va_up G_154 H_162.size (some (127, 3300))) H_162 H_164 := jKe.new hfr_164
  have hsy_164 : s.heap.size ≤ H_162.size := hh_162.1.1
  generalize (va_up G_154 H_162.size (some (127, 3300))) = G_164 at hN_164 hgn_164 hle_164 hke_164 hh_164 hZ_164
  clear hh_162
  have hNn_164 : (jNk [1, 2, 3, 4, 5, 6, 7, 8, 9, 10, 11, 12, 13]) G0 G_164 := (hNn_154).tr hN_164
  have hg_165 := hle_164 _ _ hg_155
  have hg_166 := hle_164 _ _ hg_156
  have hkp_167 := hkp_163.tr hke_164
  have hraw_168n := hke_164.nr hraw_162.lt hraw_158n
  have hraw_168 := hraw_162.kept (hke_164.1 _ hraw_162.lt)
  have hz14_164 : jN14 G0 G_164 := (hz14_154).tr hZ_164
  have hd_169 := jDZ.grow (hh_164.iv 0 rfl) hle_164 hZ_164
  have hh_170 := hh_164.sub (L1 := [(H_45.size, 0, 3, .int qc_52), (H_45.size, 0, 0, .ref xa_52), (H_31.size, 0, 3, .int qc_38), (H_31.size, 0, 0, .ref xa_38)]) [0, 1, 2, 3] rfl (M1 := [(H_127.size, 123, 3100, ca 1, (fun _ => 0)), (H_112.size, 122, 3100, ca 1, (fun _ => 0))]) [0, 1] rfl (I1 := []) [] rfl
  clear hh_164
  have hh_171 := hh_170.addI (jDZ.ie hd_169)
  clear hh_170
  refine j7_putRF hx hb hown hK hh_171 hB hAp hraw_168 hraw_168n hbr0 (C := RX14) (T := TX14) (N := 74) rfl (i := 27) (by decide) (Nat.le_of_ble_eq_true rfl) hly_16_27 rfl hin2 rfl hlk_65 (ty := (.array .int)) (v := .ref H_162.size) (by decide +kernel) rfl rfl dX14_init_153 (fun H_172 locs_172 hraw_172 hr_172 hh_172 => ?_)
  have hraw_172 : va_at (dC, dI) vwCl (r0, .inr (16, [.ref s.heap.size, .int 0, .ref H_7.size, .int 0, .int 0, .ref H_15.size, .int 0, .int 0, .int 0, .ref H_23.size, .int 0, .int 0, .int 0, .ref H_31.size, .ref H_45.size, .int (-1), .int 0, .ref H_62.size, .ref H_72.size, .ref H_82.size, .ref H_92.size, .ref H_102.size, .ref H_112.size, .ref H_127.size, .ref H_142.size, .ref H_152.size, .int 0, .ref H_162.size, .int 0, .int 0, .int 0, .int 0, .int 0, .int 0, .int 0, .int 0, .int 0, .int 0, .null, .int 0, .int 0, .null, .int 0, .null, .int 0, .null, .null, .null, .int 0, .null, .null, .null, .null, .null, .null, .null, .null, .null, .null, .null, .null, .null, .null, .null, .int 0, .int 0, .int 0, .null, .null, .null, .int 0, .null, .null, .null])) H_172 := hraw_172
  have hkp_173 := hkp_167.put hr_172
  clear hh_171
  refine lv_aload_n hx hb dX14_init_156 rfl (lv_at hl 0 rfl) ?_
  refine lv_bipush (v := 20) hx hb dX14_init_157 (by decide) ?_
  clear hsz_164 htt_164
  have hsz_174 := hh_172.2.2.2.2.2.1
  have htt_174 := hh_172.2.2.2.2.2.2.1
  refine j7_newiK hx hb hK hh_172 hB (atype := .int) (ty := .int) (htw (.arrayClass .int) (jWr_3 _ (List.mem_of_getElem? (i := 20) rfl))) rfl rfl (fun _ h => h) hB101 1 rfl (by decide) (by decide) hbs (x := 20) (by decide) (by omega) (fun j => by first | trivial | decide | rfl | exact Or.inl rfl | (refine ⟨?_, ?_⟩ <;> decide)) (by rw [hRc]; omega) (by rw [hRs]; omega) dX14_init_159 (fun H_174 hfr_174 hh_174 => ?_)
  have hh_174 : jSt (dC, dI) B base G0 (va_up G_164 H_172.size (some (101, 20))) EX14_init s.heap (((((((((((((((((((0 + 1) + 1) + 1) + 1) + 1) + (1)) + 1) + (1)) + 1) + 1) + 1) + 1) + 1) + 1) + 1) + 1) + 1) + 1) + 1) (((((((((((((((((((0 + 4000) + 20000) + 100000) + 3300) + 4) + (16)) + 4) + (16)) + 3100) + 3100) + 3100) + 3100) + 3100) + 3100) + 3100) + 3100) + 3100) + 3300) + 20) [(H_45.size, 0, 3, .int qc_52), (H_45.size, 0, 0, .ref xa_52), (H_31.size, 0, 3, .int qc_38), (H_31.size, 0, 0, .ref xa_38)] [(H_127.size, 123, 3100, ca 1, (fun _ => 0)), (H_112.size, 122, 3100, ca 1, (fun _ => 0))] [(jFz9, jDZ dC dI G_164)] H_174 locs_172 := hh_174
  have hZ_174 : jN14 G_164 (va_up G_164 H_172.size (some (101, 20))) := jN14.new (by decide)
  have hN_174 : (jNk [1, 2, 3, 4, 5, 6, 7, 8, 9, 10, 11, 12, 13]) G_164 (va_up G_164 H_172.size (some (101, 20))) := jNk.new (by decide)
  have hgn_174 : (va_up G_164 H_172.size (some (101, 20))) H_172.size = some (101, 20) := jUp_self
  have hle_174 : jLe G_164 (va_up G_164 H_172.size (some (101, 20))) := jLe.new hh_172.2.1.fresh
  have hke_174 : jKe G_164 (va_up G_164 H_172.size (some (101, 20))) H_172 H_174 := jKe.new hfr_174
  have hsy_174 : s.heap.size ≤ H_172.size := hh_172.1.1
  generalize (va_up G_164 H_172.size (some (101, 20))) = G_174 at hN_174 hgn_174 hle_174 hke_174 hh_174 hZ_174
  clear hh_172
  have hNn_174 : (jNk [1, 2, 3, 4, 5, 6, 7, 8, 9, 10, 11, 12, 13]) G0 G_174 := (hNn_164).tr hN_174
  have hg_175 := hle_174 _ _ hg_165
  have hg_176 := hle_174 _ _ hg_166
  have hkp_177 := hkp_173.tr hke_174
  have hraw_178n := hke_174.nr hraw_172.lt hraw_168n
  have hraw_178 := hraw_172.kept (hke_174.1 _ hraw_172.lt)
  have hz14_174 : jN14 G0 G_174 := (hz14_164).tr hZ_174
  have hd_179 := jDZ.grow (hh_174.iv 0 rfl) hle_174 hZ_174
  have hh_180 := hh_174.sub (L1 := [(H_45.size, 0, 3, .int qc_52), (H_45.size, 0, 0, .ref xa_52), (H_31.size, 0, 3, .int qc_38), (H_31.size, 0, 0, .ref xa_38)]) [0, 1, 2, 3] rfl (M1 := [(H_127.size, 123, 3100, ca 1, (fun _ => 0)), (H_112.size, 122, 3100, ca 1, (fun _ => 0))]) [0, 1] rfl (I1 := []) [] rfl
  clear hh_174
  have hh_181 := hh_180.addI (jDZ.ie hd_179)
  clear hh_180
  refine j7_putRF hx hb hown hK hh_181 hB hAp hraw_178 hraw_178n hbr0 (C := RX14) (T := TX14) (N := 74) rfl (i := 38) (by decide) (Nat.le_of_ble_eq_true rfl) hly_16_38 rfl hin2 rfl hlk_68 (ty := (.array .int)) (v := .ref H_172.size) (by decide +kernel) rfl rfl dX14_init_161 (fun H_182 locs_182 hraw_182 hr_182 hh_182 => ?_)
  have hraw_182 : va_at (dC, dI) vwCl (r0, .inr (16, [.ref s.heap.size, .int 0, .ref H_7.size, .int 0, .int 0, .ref H_15.size, .int 0, .int 0, .int 0, .ref H_23.size, .int 0, .int 0, .int 0, .ref H_31.size, .ref H_45.size, .int (-1), .int 0, .ref H_62.size, .ref H_72.size, .ref H_82.size, .ref H_92.size, .ref H_102.size, .ref H_112.size, .ref H_127.size, .ref H_142.size, .ref H_152.size, .int 0, .ref H_162.size, .int 0, .int 0, .int 0, .int 0, .int 0, .int 0, .int 0, .int 0, .int 0, .int 0, .ref H_172.size, .int 0, .int 0, .null, .int 0, .null, .int 0, .null, .null, .null, .int 0, .null, .null, .null, .null, .null, .null, .null, .null, .null, .null, .null, .null, .null, .null, .null, .int 0, .int 0, .int 0, .null, .null, .null, .int 0, .null, .null, .null])) H_182 := hraw_182
  have hkp_183 := hkp_177.put hr_182
  clear hh_181
  refine lv_aload_n hx hb dX14_init_164 rfl (lv_at hl 0 rfl) ?_
  refine lv_iconst (v := 3) hx hb dX14_init_165 (by decide) ?_
  clear hsz_174 htt_174
  have hsz_184 := hh_182.2.2.2.2.2.1
  have htt_184 := hh_182.2.2.2.2.2.2.1
  have hsy_184 : s.heap.size ≤ H_182.size := hh_182.1.1
  refine j7_newqR hx hb hown (htw (.classLink RX14 71 RX12) (jWr_11 _ (List.mem_of_getElem? (i := 16) rfl))) hK6.1 hK2 hh_182 hB 0 rfl (x := 3) (by decide) (by omega) (by rw [hRc]; omega) (by rw [hRs]; omega) dX14_init_166 (fun H_184 hfr_184 hnr_184 hraw_184 hh_184 => ?_)
  have hlt_185 := hraw_182.lt
  have hraw_184 : va_at (dC, dI) vwCl (H_182.size, .inl (ca 4, 3, .inr (.inr (.inr (.inr (fun _ => none)))))) H_184 := hraw_184
  have hh_184 : jSt (dC, dI) B base G0 G_174 EX14_init s.heap ((((((((((((((((((((0 + 1) + 1) + 1) + 1) + 1) + (1)) + 1) + (1)) + 1) + 1) + 1) + 1) + 1) + 1) + 1) + 1) + 1) + 1) + 1) + 1) ((((((((((((((((((((0 + 4000) + 20000) + 100000) + 3300) + 4) + (16)) + 4) + (16)) + 3100) + 3100) + 3100) + 3100) + 3100) + 3100) + 3100) + 3100) + 3100) + 3300) + 20) + 3) [(H_45.size, 0, 3, .int qc_52), (H_45.size, 0, 0, .ref xa_52), (H_31.size, 0, 3, .int qc_38), (H_31.size, 0, 0, .ref xa_38)] [(H_127.size, 123, 3100, ca 1, (fun _ => 0)), (H_112.size, 122, 3100, ca 1, (fun _ => 0))] [(jFz9, jDZ dC dI G_174)] H_184 locs_182 := hh_184
  have hke_184 : jKe G_174 G_174 H_182 H_184 := jKe.raw hfr_184
  have hbr_184 : base ≤ H_182.size := Nat.le_trans hbs hsy_184
  clear hh_182
  have hkp_186 := hkp_183.tr hke_184
  have hraw_187n := hke_184.nr hraw_182.lt hraw_178n
  have hraw_187 := hraw_182.kept (hke_184.1 _ hraw_182.lt)
  have hne_188 : r0 ≠ H_182.size := Nat.ne_of_lt hlt_185
  refine lv_dup hx hb dX14_init_169 rfl ?_
  refine lv_iconst (v := 0) hx hb dX14_init_170 (by decide) ?_
  clear hsz_184 htt_184
  have hsz_189 := hh_184.2.2.2.2.2.1
  have htt_189 := hh_184.2.2.2.2.2.2.1
  refine j7_newo (k := 14) (C := RX12) (T := TX12) (N := 11) (fs := [.null, .int 0, .int 0, .null, .int 0, .int 0, .null, .null, .null, .int 0, .null]) hx hb htw jWc_wsX120 (fun k => ([(.array .int), .int, .int, (.array .int), .int, .int, (.array .int), (.array .int), (.array .int), .int, (.array .int)] : List FieldType).getD k .int) (by decide +kernel) hown (htw (.classLink RX14 71 RX12) (jWr_11 _ (List.mem_of_getElem? (i := 16) rfl))) (htw (.instantiable RX12 11) (jWr_11 _ (List.mem_of_getElem? (i := 17) rfl))) (htw (.initialized RX12) (jWr_11 _ (List.mem_of_getElem? (i := 18) rfl))) hK rfl (fun j hj => by rcases (by omega : j = 0 ∨ j = 1 ∨ j = 2 ∨ j = 3 ∨ j = 4 ∨ j = 5 ∨ j = 6 ∨ j = 7 ∨ j = 8 ∨ j = 9 ∨ j = 10) with rfl | rfl | rfl | rfl | rfl | rfl | rfl | rfl | rfl | rfl | rfl <;> rfl) hh_184 hB (by rw [hRc]; omega) (by rw [hRs]; omega) dX14_init_171 (fun H_189 hraw_189 hfr_189 hnr_189 hh_189 => ?_)
  have hlt_190 := hraw_187.lt
  have hlt_191 := hraw_184.lt
  have hke_189 : jKe G_174 G_174 H_184 H_189 := jKe.raw hfr_189
  have hbr_189 : base ≤ H_184.size := Nat.le_trans hbs hh_184.1.1
  have hsy_189 : s.heap.size ≤ H_184.size := hh_184.1.1
  clear hh_184
  have hkp_192 := hkp_186.tr hke_189
  have hraw_193n := hke_189.nr hraw_187.lt hraw_187n
  have hraw_193 := hraw_187.kept (hke_189.1 _ hraw_187.lt)
  have hraw_194n := hke_189.nr hraw_184.lt hnr_184
  have hraw_194 := hraw_184.kept (hke_189.1 _ hraw_184.lt)
  have hne_195 : r0 ≠ H_184.size := Nat.ne_of_lt hlt_190
  have hne_196 : H_182.size ≠ H_184.size := Nat.ne_of_lt hlt_191
  refine lv_dup hx hb dX14_init_174 rfl ?_
  clear hsz_189 htt_189
  have hsz_197 := hh_189.2.2.2.2.2.1
  have htt_197 := hh_189.2.2.2.2.2.2.1
  refine W.room (fun hrc_197 hrs_197 => ?_)
  refine va_callv (A0 := jA base) (H0 := s.heap) (va_runIN (As := []) (rest := [.ref H_184.size, .int 0, .ref H_182.size, .ref H_182.size, .ref r0]) ⟨hx, hb, hml, hown, hts⟩ (uX12_initE l dC dI ca base B hB hAp hB14 hB101 hB190 hB191 hB192 hB193 G_174 H_189 H_184.size LC LS) ⟨va_cnB 0 hts (jgW (jWr_13 _ (List.mem_of_getElem? (i := 21) rfl))) rfl rfl rfl (hG.2.2.1 RX14 73 yX12_init "ProofServerModel" (List.mem_of_getElem? (i := 1726) (by decide +kernel))) (htw (.initialized RX12) (jWr_11 _ (List.mem_of_getElem? (i := 18) rfl))) (by decide +kernel) ⟨by rw [← hR]; exact Nat.le_of_ble_eq_true rfl, by rw [← hR]; exact Nat.le_of_ble_eq_true rfl⟩, rfl, htw (.instanceMethod yX12_init) (jWr_13 _ (List.mem_of_getElem? (i := 20) rfl))⟩ ⟨fun a U g mk q => by obtain ⟨q0, q1, q2, qK, q10, q11, q12, q13, q14, q15⟩ := q; exact ⟨q0, q1, q2, jG.calling g mk a qK, q10, q11, q12, q13, q14, q15⟩, fun U hU hW => ⟨rfl, hU, hh_189.2.1, hG.step hW hU hh_189.1, hraw_189, hnr_189, hbr_189, jP.nil, (hh_189.2.2.2.2.2.2.2.2.sub (L1 := [(jFz9, jDZ dC dI G_174)]) [0] rfl), (by omega), (by omega), trivial⟩⟩ rfl rfl hl.1 rfl (lv_room (Nat.le_of_ble_eq_true rfl)) dX14_init_175 ⟨by rw [hRc]; omega, by rw [hRs]; omega⟩) hh_189.1 (fun q _ h => h) (fun q h => h) (fun u_197 t_197 H_197 locs_197 ht_197 hvm_197 hr_198 hb_197 hz_197 hk_197 hS_197 => ?_)
  rw [ht_197] at hb_197
  obtain ⟨G_197, rfl⟩ : ∃ z, z = u_197 := ⟨_, rfl⟩
  try simp only at hb_197
  obtain ⟨⟨hb_1971, hb_1972, hb_1973, hb_1974, hb_1975, hb_1976⟩, hN_197, hgc_197, hbX_197, hbE_197⟩ := hb_197
  have hN_197 : (jNk [1, 2, 3, 4, 5, 6, 7, 8, 9, 10, 11, 12, 13]) G_174 G_197 := hN_197.sub (by decide)
  have hh_197 : jSt (dC, dI) B base G0 G_197 EX14_init s.heap ((((((((((((((((((((((0 + 1) + 1) + 1) + 1) + 1) + (1)) + 1) + (1)) + 1) + 1) + 1) + 1) + 1) + 1) + 1) + 1) + 1) + 1) + 1) + 1) + 1) + (6)) ((((((((((((((((((((((0 + 4000) + 20000) + 100000) + 3300) + 4) + (16)) + 4) + (16)) + 3100) + 3100) + 3100) + 3100) + 3100) + 3100) + 3100) + 3100) + 3100) + 3300) + 20) + 3) + 11) + (1700)) [(H_45.size, 0, 3, .int qc_52), (H_45.size, 0, 0, .ref xa_52), (H_31.size, 0, 3, .int qc_38), (H_31.size, 0, 0, .ref xa_38)] [(H_127.size, 123, 3100, ca 1, (fun _ => 0)), (H_112.size, 122, 3100, ca 1, (fun _ => 0))] [] H_197 locs_197 := (hh_189.callG hb_1971 hb_1972 hb_1973 hb_1974 hb_1975 hS_197 rfl (L1 := [(H_45.size, 0, 3, .int qc_52), (H_45.size, 0, 0, .ref xa_52), (H_31.size, 0, 3, .int qc_38), (H_31.size, 0, 0, .ref xa_38)]) [0, 1, 2, 3] rfl rfl (M1 := [(H_127.size, 123, 3100, ca 1, (fun _ => 0)), (H_112.size, 122, 3100, ca 1, (fun _ => 0))]) [0, 1] rfl rfl (I1 := []) [] rfl rfl).more hb_1976
  have hNn_197 : (jNk [1, 2, 3, 4, 5, 6, 7, 8, 9, 10, 11, 12, 13]) G0 G_197 := (hNn_174).tr hN_197
  have hg_199 := hb_1972 _ _ hg_175
  have hg_200 := hb_1972 _ _ hg_176
  have hh_201 := hh_197.addIs hbE_197
  try simp only at hr_198
  have hkp_202 := hkp_192.in hbX_197 hsy_189
  have hraw_203x := hbX_197.ke hraw_193.lt hne_195 hraw_193n
  have hraw_203 := hraw_193.kept hraw_203x.1
  have hraw_204x := hbX_197.ke hraw_194.lt hne_196 hraw_194n
  have hraw_204 := hraw_194.kept hraw_204x.1
  refine j7_qastR hx hb hK2 hh_201 hB hraw_204 hraw_204x.2 hbr_184 0 rfl (x := 0) ((by decide)) (by omega) hB14 (T := TX12) (N := 11) rfl (by decide) hgc_197 dX14_init_178 (fun H_205 locs_205 hraw_205 hr_205 hh_205 => ?_)
  have hraw_206 := hraw_203.kept (hr_205 _ hne_188)
  have hkp_207 := hkp_202.st hsy_184 hr_205
  clear hr_205
  clear hh_201
  refine lv_dup hx hb dX14_init_179 rfl ?_
  refine lv_iconst (v := 1) hx hb dX14_init_180 (by decide) ?_
  have hlt_d0 : H_184.size < H_205.size := (hh_205.ab ((jLe.rf) _ _ hgc_197)).2
  clear hsz_197 htt_197 hrc_197 hrs_197
  have hsz_208 := hh_205.2.2.2.2.2.1
  have htt_208 := hh_205.2.2.2.2.2.2.1
  refine j7_newo (k := 14) (C := RX12) (T := TX12) (N := 11) (fs := [.null, .int 0, .int 0, .null, .int 0, .int 0, .null, .null, .null, .int 0, .null]) hx hb htw jWc_wsX120 (fun k => ([(.array .int), .int, .int, (.array .int), .int, .int, (.array .int), (.array .int), (.array .int), .int, (.array .int)] : List FieldType).getD k .int) (by decide +kernel) hown (htw (.classLink RX14 71 RX12) (jWr_11 _ (List.mem_of_getElem? (i := 16) rfl))) (htw (.instantiable RX12 11) (jWr_11 _ (List.mem_of_getElem? (i := 17) rfl))) (htw (.initialized RX12) (jWr_11 _ (List.mem_of_getElem? (i := 18) rfl))) hK rfl (fun j hj => by rcases (by omega : j = 0 ∨ j = 1 ∨ j = 2 ∨ j = 3 ∨ j = 4 ∨ j = 5 ∨ j = 6 ∨ j = 7 ∨ j = 8 ∨ j = 9 ∨ j = 10) with rfl | rfl | rfl | rfl | rfl | rfl | rfl | rfl | rfl | rfl | rfl <;> rfl) hh_205 hB (by rw [hRc]; omega) (by rw [hRs]; omega) dX14_init_181 (fun H_208 hraw_208 hfr_208 hnr_208 hh_208 => ?_)
  have hlt_209 := hraw_206.lt
  have hlt_210 := hraw_205.lt
  have hke_208 : jKe G_197 G_197 H_205 H_208 := jKe.raw hfr_208
  have hbr_208 : base ≤ H_205.size := Nat.le_trans hbs hh_205.1.1
  have hsy_208 : s.heap.size ≤ H_205.size := hh_205.1.1
  clear hh_205
  have hkp_211 := hkp_207.tr hke_208
  have hraw_212n := hke_208.nr hraw_206.lt hraw_203x.2
  have hraw_212 := hraw_206.kept (hke_208.1 _ hraw_206.lt)
  have hraw_213n := hke_208.nr hraw_205.lt hraw_204x.2
  have hraw_213 := hraw_205.kept (hke_208.1 _ hraw_205.lt)
  have hne_214 : r0 ≠ H_205.size := Nat.ne_of_lt hlt_209
  have hne_215 : H_182.size ≠ H_205.size := Nat.ne_of_lt hlt_210
  refine lv_dup hx hb dX14_init_184 rfl ?_
  clear hsz_208 htt_208
  have hsz_216 := hh_208.2.2.2.2.2.1
  have htt_216 := hh_208.2.2.2.2.2.2.1
  refine W.room (fun hrc_216 hrs_216 => ?_)
  refine va_callv (A0 := jA base) (H0 := s.heap) (va_runIN (As := []) (rest := [.ref H_205.size, .int 1, .ref H_182.size, .ref H_182.size, .ref r0]) ⟨hx, hb, hml, hown, hts⟩ (uX12_initE l dC dI ca base B hB hAp hB14 hB101 hB190 hB191 hB192 hB193 G_197 H_208 H_205.size LC LS) ⟨va_cnB 0 hts (jgW (jWr_13 _ (List.mem_of_getElem? (i := 21) rfl))) rfl rfl rfl (hG.2.2.1 RX14 73 yX12_init "ProofServerModel" (List.mem_of_getElem? (i := 1726) (by decide +kernel))) (htw (.initialized RX12) (jWr_11 _ (List.mem_of_getElem? (i := 18) rfl))) (by decide +kernel) ⟨by rw [← hR]; exact Nat.le_of_ble_eq_true rfl, by rw [← hR]; exact Nat.le_of_ble_eq_true rfl⟩, rfl, htw (.instanceMethod yX12_init) (jWr_13 _ (List.mem_of_getElem? (i := 20) rfl))⟩ ⟨fun a U g mk q => by obtain ⟨q0, q1, q2, qK, q10, q11, q12, q13, q14, q15⟩ := q; exact ⟨q0, q1, q2, jG.calling g mk a qK, q10, q11, q12, q13, q14, q15⟩, fun U hU hW => ⟨rfl, hU, hh_208.2.1, hG.step hW hU hh_208.1, hraw_208, hnr_208, hbr_208, jP.nil, (hh_208.2.2.2.2.2.2.2.2.sub (L1 := [(jFz9, jDZ dC dI G_197)]) [0] rfl), (by omega), (by omega), trivial⟩⟩ rfl rfl hl.1 rfl (lv_room (Nat.le_of_ble_eq_true rfl)) dX14_init_185 ⟨by rw [hRc]; omega, by rw [hRs]; omega⟩) hh_208.1 (fun q _ h => h) (fun q h => h) (fun u_216 t_216 H_216 locs_216 ht_216 hvm_216 hr_217 hb_216 hz_216 hk_216 hS_216 => ?_)
  rw [ht_216] at hb_216
  obtain ⟨G_216, rfl⟩ : ∃ z, z = u_216 := ⟨_, rfl⟩
  try simp only at hb_216
  obtain ⟨⟨hb_2161, hb_2162, hb_2163, hb_2164, hb_2165, hb_2166⟩, hN_216, hgc_216, hbX_216, hbE_216⟩ := hb_216
  have hN_216 : (jNk [1, 2, 3, 4, 5, 6, 7, 8, 9, 10, 11, 12, 13]) G_197 G_216 := hN_216.sub (by decide)
  have hh_216 : jSt (dC, dI) B base G0 G_216 EX14_init s.heap ((((((((((((((((((((((((0 + 1) + 1) + 1) + 1) + 1) + (1)) + 1) + (1)) + 1) + 1) + 1) + 1) + 1) + 1) + 1) + 1) + 1) + 1) + 1) + 1) + 1) + (6)) + 1) + (6)) ((((((((((((((((((((((((0 + 4000) + 20000) + 100000) + 3300) + 4) + (16)) + 4) + (16)) + 3100) + 3100) + 3100) + 3100) + 3100) + 3100) + 3100) + 3100) + 3100) + 3300) + 20) + 3) + 11) + (1700)) + 11) + (1700)) [(H_45.size, 0, 3, .int qc_52), (H_45.size, 0, 0, .ref xa_52), (H_31.size, 0, 3, .int qc_38), (H_31.size, 0, 0, .ref xa_38)] [(H_127.size, 123, 3100, ca 1, (fun _ => 0)), (H_112.size, 122, 3100, ca 1, (fun _ => 0))] [] H_216 locs_216 := (hh_208.callG hb_2161 hb_2162 hb_2163 hb_2164 hb_2165 hS_216 rfl (L1 := [(H_45.size, 0, 3, .int qc_52), (H_45.size, 0, 0, .ref xa_52), (H_31.size, 0, 3, .int qc_38), (H_31.size, 0, 0, .ref xa_38)]) [0, 1, 2, 3] rfl rfl (M1 := [(H_127.size, 123, 3100, ca 1, (fun _ => 0)), (H_112.size, 122, 3100, ca 1, (fun _ => 0))]) [0, 1] rfl rfl (I1 := []) [] rfl rfl).more hb_2166
  have hNn_216 : (jNk [1, 2, 3, 4, 5, 6, 7, 8, 9, 10, 11, 12, 13]) G0 G_216 := (hNn_197).tr hN_216
  have hg_218 := hb_2162 _ _ hg_199
  have hg_219 := hb_2162 _ _ hg_200
  have hh_220 := hh_216.addIs hbE_216
  try simp only at hr_217
  have hkp_221 := hkp_211.in hbX_216 hsy_208
  have hraw_222x := hbX_216.ke hraw_212.lt hne_214 hraw_212n
  have hraw_222 := hraw_212.kept hraw_222x.1
  have hraw_223x := hbX_216.ke hraw_213.lt hne_215 hraw_213n
  have hraw_223 := hraw_213.kept hraw_223x.1
  refine j7_qastR hx hb hK2 hh_220 hB hraw_223 hraw_223x.2 hbr_184 0 rfl (x := 1) ((by decide)) (by omega) hB14 (T := TX12) (N := 11) rfl (by decide) hgc_216 dX14_init_188 (fun H_224 locs_224 hraw_224 hr_224 hh_224 => ?_)
  have hraw_225 := hraw_222.kept (hr_224 _ hne_188)
  have hkp_226 := hkp_221.st hsy_184 hr_224
  clear hr_224
  clear hh_220
  refine lv_dup hx hb dX14_init_189 rfl ?_
  refine lv_iconst (v := 2) hx hb dX14_init_190 (by decide) ?_
  have hlt_d1 : H_205.size < H_224.size := (hh_224.ab ((jLe.rf) _ _ hgc_216)).2
  clear hsz_216 htt_216 hrc_216 hrs_216
  have hsz_227 := hh_224.2.2.2.2.2.1
  have htt_227 := hh_224.2.2.2.2.2.2.1
  refine j7_newo (k := 14) (C := RX12) (T := TX12) (N := 11) (fs := [.null, .int 0, .int 0, .null, .int 0, .int 0, .null, .null, .null, .int 0, .null]) hx hb htw jWc_wsX120 (fun k => ([(.array .int), .int, .int, (.array .int), .int, .int, (.array .int), (.array .int), (.array .int), .int, (.array .int)] : List FieldType).getD k .int) (by decide +kernel) hown (htw (.classLink RX14 71 RX12) (jWr_11 _ (List.mem_of_getElem? (i := 16) rfl))) (htw (.instantiable RX12 11) (jWr_11 _ (List.mem_of_getElem? (i := 17) rfl))) (htw (.initialized RX12) (jWr_11 _ (List.mem_of_getElem? (i := 18) rfl))) hK rfl (fun j hj => by rcases (by omega : j = 0 ∨ j = 1 ∨ j = 2 ∨ j = 3 ∨ j = 4 ∨ j = 5 ∨ j = 6 ∨ j = 7 ∨ j = 8 ∨ j = 9 ∨ j = 10) with rfl | rfl | rfl | rfl | rfl | rfl | rfl | rfl | rfl | rfl | rfl <;> rfl) hh_224 hB (by rw [hRc]; omega) (by rw [hRs]; omega) dX14_init_191 (fun H_227 hraw_227 hfr_227 hnr_227 hh_227 => ?_)
  have hlt_228 := hraw_225.lt
  have hlt_229 := hraw_224.lt
  have hke_227 : jKe G_216 G_216 H_224 H_227 := jKe.raw hfr_227
  have hbr_227 : base ≤ H_224.size := Nat.le_trans hbs hh_224.1.1
  have hsy_227 : s.heap.size ≤ H_224.size := hh_224.1.1
  clear hh_224
  have hkp_230 := hkp_226.tr hke_227
  have hraw_231n := hke_227.nr hraw_225.lt hraw_222x.2
  have hraw_231 := hraw_225.kept (hke_227.1 _ hraw_225.lt)
  have hraw_232n := hke_227.nr hraw_224.lt hraw_223x.2
  have hraw_232 := hraw_224.kept (hke_227.1 _ hraw_224.lt)
  have hne_233 : r0 ≠ H_224.size := Nat.ne_of_lt hlt_228
  have hne_234 : H_182.size ≠ H_224.size := Nat.ne_of_lt hlt_229
  refine lv_dup hx hb dX14_init_194 rfl ?_
  clear hsz_227 htt_227
  have hsz_235 := hh_227.2.2.2.2.2.1
  have htt_235 := hh_227.2.2.2.2.2.2.1
  refine W.room (fun hrc_235 hrs_235 => ?_)
  refine va_callv (A0 := jA base) (H0 := s.heap) (va_runIN (As := []) (rest := [.ref H_224.size, .int 2, .ref H_182.size, .ref H_182.size, .ref r0]) ⟨hx, hb, hml, hown, hts⟩ (uX12_initE l dC dI ca base B hB hAp hB14 hB101 hB190 hB191 hB192 hB193 G_216 H_227 H_224.size LC LS) ⟨va_cnB 0 hts (jgW (jWr_13 _ (List.mem_of_getElem? (i := 21) rfl))) rfl rfl rfl (hG.2.2.1 RX14 73 yX12_init "ProofServerModel" (List.mem_of_getElem? (i := 1726) (by decide +kernel))) (htw (.initialized RX12) (jWr_11 _ (List.mem_of_getElem? (i := 18) rfl))) (by decide +kernel) ⟨by rw [← hR]; exact Nat.le_of_ble_eq_true rfl, by rw [← hR]; exact Nat.le_of_ble_eq_true rfl⟩, rfl, htw (.instanceMethod yX12_init) (jWr_13 _ (List.mem_of_getElem? (i := 20) rfl))⟩ ⟨fun a U g mk q => by obtain ⟨q0, q1, q2, qK, q10, q11, q12, q13, q14, q15⟩ := q; exact ⟨q0, q1, q2, jG.calling g mk a qK, q10, q11, q12, q13, q14, q15⟩, fun U hU hW => ⟨rfl, hU, hh_227.2.1, hG.step hW hU hh_227.1, hraw_227, hnr_227, hbr_227, jP.nil, (hh_227.2.2.2.2.2.2.2.2.sub (L1 := [(jFz9, jDZ dC dI G_216)]) [0] rfl), (by omega), (by omega), trivial⟩⟩ rfl rfl hl.1 rfl (lv_room (Nat.le_of_ble_eq_true rfl)) dX14_init_195 ⟨by rw [hRc]; omega, by rw [hRs]; omega⟩) hh_227.1 (fun q _ h => h) (fun q h => h) (fun u_235 t_235 H_235 locs_235 ht_235 hvm_235 hr_236 hb_235 hz_235 hk_235 hS_235 => ?_)
  rw [ht_235] at hb_235
  obtain ⟨G_235, rfl⟩ : ∃ z, z = u_235 := ⟨_, rfl⟩
  try simp only at hb_235
  obtain ⟨⟨hb_2351, hb_2352, hb_2353, hb_2354, hb_2355, hb_2356⟩, hN_235, hgc_235, hbX_235, hbE_235⟩ := hb_235
  have hN_235 : (jNk [1, 2, 3, 4, 5, 6, 7, 8, 9, 10, 11, 12, 13]) G_216 G_235 := hN_235.sub (by decide)
  have hh_235 : jSt (dC, dI) B base G0 G_235 EX14_init s.heap ((((((((((((((((((((((((((0 + 1) + 1) + 1) + 1) + 1) + (1)) + 1) + (1)) + 1) + 1) + 1) + 1) + 1) + 1) + 1) + 1) + 1) + 1) + 1) + 1) + 1) + (6)) + 1) + (6)) + 1) + (6)) ((((((((((((((((((((((((((0 + 4000) + 20000) + 100000) + 3300) + 4) + (16)) + 4) + (16)) + 3100) + 3100) + 3100) + 3100) + 3100) + 3100) + 3100) + 3100) + 3100) + 3300) + 20) + 3) + 11) + (1700)) + 11) + (1700)) + 11) + (1700)) [(H_45.size, 0, 3, .int qc_52), (H_45.size, 0, 0, .ref xa_52), (H_31.size, 0, 3, .int qc_38), (H_31.size, 0, 0, .ref xa_38)] [(H_127.size, 123, 3100, ca 1, (fun _ => 0)), (H_112.size, 122, 3100, ca 1, (fun _ => 0))] [] H_235 locs_235 := (hh_227.callG hb_2351 hb_2352 hb_2353 hb_2354 hb_2355 hS_235 rfl (L1 := [(H_45.size, 0, 3, .int qc_52), (H_45.size, 0, 0, .ref xa_52), (H_31.size, 0, 3, .int qc_38), (H_31.size, 0, 0, .ref xa_38)]) [0, 1, 2, 3] rfl rfl (M1 := [(H_127.size, 123, 3100, ca 1, (fun _ => 0)), (H_112.size, 122, 3100, ca 1, (fun _ => 0))]) [0, 1] rfl rfl (I1 := []) [] rfl rfl).more hb_2356
  have hNn_235 : (jNk [1, 2, 3, 4, 5, 6, 7, 8, 9, 10, 11, 12, 13]) G0 G_235 := (hNn_216).tr hN_235
  have hg_237 := hb_2352 _ _ hg_218
  have hg_238 := hb_2352 _ _ hg_219
  have hh_239 := hh_235.addIs hbE_235
  try simp only at hr_236
  have hkp_240 := hkp_230.in hbX_235 hsy_227
  have hraw_241x := hbX_235.ke hraw_231.lt hne_233 hraw_231n
  have hraw_241 := hraw_231.kept hraw_241x.1
  have hraw_242x := hbX_235.ke hraw_232.lt hne_234 hraw_232n
  have hraw_242 := hraw_232.kept hraw_242x.1
  refine j7_qastR hx hb hK2 hh_239 hB hraw_242 hraw_242x.2 hbr_184 0 rfl (x := 2) ((by decide)) (by omega) hB14 (T := TX12) (N := 11) rfl (by decide) hgc_235 dX14_init_198 (fun H_243 locs_243 hraw_243 hr_243 hh_243 => ?_)
  have hraw_244 := hraw_241.kept (hr_243 _ hne_188)
  have hkp_245 := hkp_240.st hsy_184 hr_243
  clear hr_243
  clear hh_239
  have hgm_d0 := ((hb_2162).tr hb_2352) _ _ hgc_197
  have hgm_d1 := (hb_2352) _ _ hgc_216
  have hgm_d2 := (jLe.rf) _ _ hgc_235
  have hle_246 : jLe G_235 (va_up G_235 H_182.size (some (201, 3))) := jLe.typ hraw_242x.2
  have hh_246 := hh_243.typ (k := 201) (n := 3) hB hraw_242x.2 hbr_184 hraw_243.lt (jAq.of hB201 hraw_243 (jQs3 hle_246 hgm_d0 hgm_d1 hgm_d2))
  have hgn_246 : (va_up G_235 H_182.size (some (201, 3))) H_182.size = some (201, 3) := jUp_self
  have hN_246 : (jNk [1, 2, 3, 4, 5, 6, 7, 8, 9, 10, 11, 12, 13]) G_235 (va_up G_235 H_182.size (some (201, 3))) := jNk.new (by decide)
  have hNn_246 : (jNk [1, 2, 3, 4, 5, 6, 7, 8, 9, 10, 11, 12, 13]) G0 (va_up G_235 H_182.size (some (201, 3))) := (hNn_235).tr hN_246
  have hkp_247 := hkp_245.typn (t := some (201, 3)) hsy_184
  have hZ_246 : jN14 G_235 (va_up G_235 H_182.size (some (201, 3))) := jN14.new (by decide)
  generalize (va_up G_235 H_182.size (some (201, 3))) = G_246 at hN_246 hNn_246 hgn_246 hle_246 hh_246 hkp_247 hZ_246
  have hg_248 := hle_246 _ _ hg_237
  have hg_249 := hle_246 _ _ hg_238
  have hd_250 := jDZ.grow (hh_246.iv 0 rfl) hle_246 hZ_246
  have hh_251 := hh_246.sub (L1 := [(H_45.size, 0, 3, .int qc_52), (H_45.size, 0, 0, .ref xa_52), (H_31.size, 0, 3, .int qc_38), (H_31.size, 0, 0, .ref xa_38)]) [0, 1, 2, 3] rfl (M1 := [(H_127.size, 123, 3100, ca 1, (fun _ => 0)), (H_112.size, 122, 3100, ca 1, (fun _ => 0))]) [0, 1] rfl (I1 := []) [] rfl
  clear hh_246
  have hh_252 := hh_251.addI (jDZ.ie hd_250)
  clear hh_251
  have hz14_246 : jN14 G0 G_246 := (hz14_174).tr hZ_246
  have hh_253 := hh_252.addI (jQc.ie hraw_243 hgn_246 (by decide) (by decide))
  clear hh_252
  refine j7_putRF hx hb hown hK hh_253 hB hAp hraw_244 hraw_241x.2 hbr0 (C := RX14) (T := TX14) (N := 74) rfl (i := 41) (by decide) (Nat.le_of_ble_eq_true rfl) hly_16_41 rfl hin2 rfl hlk_74 (ty := (.array (.object "ProofServerModel$Document"))) (v := .ref H_182.size) (by decide +kernel) rfl rfl dX14_init_199 (fun H_254 locs_254 hraw_254 hr_254 hh_254 => ?_)
  have hraw_254 : va_at (dC, dI) vwCl (r0, .inr (16, [.ref s.heap.size, .int 0, .ref H_7.size, .int 0, .int 0, .ref H_15.size, .int 0, .int 0, .int 0, .ref H_23.size, .int 0, .int 0, .int 0, .ref H_31.size, .ref H_45.size, .int (-1), .int 0, .ref H_62.size, .ref H_72.size, .ref H_82.size, .ref H_92.size, .ref H_102.size, .ref H_112.size, .ref H_127.size, .ref H_142.size, .ref H_152.size, .int 0, .ref H_162.size, .int 0, .int 0, .int 0, .int 0, .int 0, .int 0, .int 0, .int 0, .int 0, .int 0, .ref H_172.size, .int 0, .int 0, .ref H_182.size, .int 0, .null, .int 0, .null, .null, .null, .int 0, .null, .null, .null, .null, .null, .null, .null, .null, .null, .null, .null, .null, .null, .null, .null, .int 0, .int 0, .int 0, .null, .null, .null, .int 0, .null, .null, .null])) H_254 := hraw_254
  have hkp_255 := hkp_247.put hr_254
  clear hh_253
  refine lv_aload_n hx hb dX14_init_202 rfl (lv_at hl 0 rfl) ?_
  refine lv_sipush (v := 3100) hx hb dX14_init_203 (by decide) ?_
  clear hsz_235 htt_235 hrc_235 hrs_235
  have hsz_256 := hh_254.2.2.2.2.2.1
  have htt_256 := hh_254.2.2.2.2.2.2.1
  refine j7_newiK hx hb hK hh_254 hB (atype := .int) (ty := .int) (htw (.arrayClass .int) (jWr_3 _ (List.mem_of_getElem? (i := 20) rfl))) rfl rfl (fun _ h => h) hB101 1 rfl (by decide) (by decide) hbs (x := 3100) (by decide) (by omega) (fun j => by first | trivial | decide | rfl | exact Or.inl rfl | (refine ⟨?_, ?_⟩ <;> decide)) (by rw [hRc]; omega) (by rw [hRs]; omega) dX14_init_206 (fun H_256 hfr_256 hh_256 => ?_)
  have hh_256 : jSt (dC, dI) B base G0 (va_up G_246 H_254.size (some (101, 3100))) EX14_init s.heap (((((((((((((((((((((((((((0 + 1) + 1) + 1) + 1) + 1) + (1)) + 1) + (1)) + 1) + 1) + 1) + 1) + 1) + 1) + 1) + 1) + 1) + 1) + 1) + 1) + 1) + (6)) + 1) + (6)) + 1) + (6)) + 1) (((((((((((((((((((((((((((0 + 4000) + 20000) + 100000) + 3300) + 4) + (16)) + 4) + (16)) + 3100) + 3100) + 3100) + 3100) + 3100) + 3100) + 3100) + 3100) + 3100) + 3300) + 20) + 3) + 11) + (1700)) + 11) + (1700)) + 11) + (1700)) + 3100) [(H_45.size, 0, 3, .int qc_52), (H_45.size, 0, 0, .ref xa_52), (H_31.size, 0, 3, .int qc_38), (H_31.size, 0, 0, .ref xa_38)] [(H_127.size, 123, 3100, ca 1, (fun _ => 0)), (H_112.size, 122, 3100, ca 1, (fun _ => 0))] [([(201, 0)], jQc dC dI (ca 4) H_182.size 3 (va_up (va_up (va_up (fun _ => none) 0 (some H_184.size)) 1 (some H_205.size)) 2 (some H_224.size))), (jFz9, jDZ dC dI G_246)] H_256 locs_254 := hh_256
  have hZ_256 : jN14 G_246 (va_up G_246 H_254.size (some (101, 3100))) := jN14.new (by decide)
  have hN_256 : (jNk [1, 2, 3, 4, 5, 6, 7, 8, 9, 10, 11, 12, 13]) G_246 (va_up G_246 H_254.size (some (101, 3100))) := jNk.new (by decide)
  have hgn_256 : (va_up G_246 H_254.size (some (101, 3100))) H_254.size = some (101, 3100) := jUp_self
  have hle_256 : jLe G_246 (va_up G_246 H_254.size (some (101, 3100))) := jLe.new hh_254.2.1.fresh
  have hke_256 : jKe G_246 (va_up G_246 H_254.size (some (101, 3100))) H_254 H_256 := jKe.new hfr_256
  have hsy_256 : s.heap.size ≤ H_254.size := hh_254.1.1
  generalize (va_up G_246 H_254.size (some (101, 3100))) = G_256 at hN_256 hgn_256 hle_256 hke_256 hh_256 hZ_256
  clear hh_254
  have hNn_256 : (jNk [1, 2, 3, 4, 5, 6, 7, 8, 9, 10, 11, 12, 13]) G0 G_256 := (hNn_246).tr hN_256
  have hg_257 := hle_256 _ _ hg_248
  have hg_258 := hle_256 _ _ hg_249
  have hkp_259 := hkp_255.tr hke_256
  have hraw_260n := hke_256.nr hraw_254.lt hraw_241x.2
  have hraw_260 := hraw_254.kept (hke_256.1 _ hraw_254.lt)
  have hz14_256 : jN14 G0 G_256 := (hz14_246).tr hZ_256
  have hd_262 := jDZ.grow (hh_256.iv 1 rfl) hle_256 hZ_256
  have hh_263 := hh_256.sub (L1 := [(H_45.size, 0, 3, .int qc_52), (H_45.size, 0, 0, .ref xa_52), (H_31.size, 0, 3, .int qc_38), (H_31.size, 0, 0, .ref xa_38)]) [0, 1, 2, 3] rfl (M1 := [(H_127.size, 123, 3100, ca 1, (fun _ => 0)), (H_112.size, 122, 3100, ca 1, (fun _ => 0))]) [0, 1] rfl (I1 := [([(201, 0)], jQc dC dI (ca 4) H_182.size 3 (va_up (va_up (va_up (fun _ => none) 0 (some H_184.size)) 1 (some H_205.size)) 2 (some H_224.size)))]) [0] rfl
  clear hh_256
  have hh_264 := hh_263.addI (jDZ.ie hd_262)
  clear hh_263
  refine j7_putRF hx hb hown hK hh_264 hB hAp hraw_260 hraw_260n hbr0 (C := RX14) (T := TX14) (N := 74) rfl (i := 43) (by decide) (Nat.le_of_ble_eq_true rfl) hly_16_43 rfl hin2 rfl hlk_78 (ty := (.array .int)) (v := .ref H_254.size) (by decide +kernel) rfl rfl dX14_init_208 (fun H_265 locs_265 hraw_265 hr_265 hh_265 => ?_)
  have hraw_265 : va_at (dC, dI) vwCl (r0, .inr (16, [.ref s.heap.size, .int 0, .ref H_7.size, .int 0, .int 0, .ref H_15.size, .int 0, .int 0, .int 0, .ref H_23.size, .int 0, .int 0, .int 0, .ref H_31.size, .ref H_45.size, .int (-1), .int 0, .ref H_62.size, .ref H_72.size, .ref H_82.size, .ref H_92.size, .ref H_102.size, .ref H_112.size, .ref H_127.size, .ref H_142.size, .ref H_152.size, .int 0, .ref H_162.size, .int 0, .int 0, .int 0, .int 0, .int 0, .int 0, .int 0, .int 0, .int 0, .int 0, .ref H_172.size, .int 0, .int 0, .ref H_182.size, .int 0, .ref H_254.size, .int 0, .null, .null, .null, .int 0, .null, .null, .null, .null, .null, .null, .null, .null, .null, .null, .null, .null, .null, .null, .null, .int 0, .int 0, .int 0, .null, .null, .null, .int 0, .null, .null, .null])) H_265 := hraw_265
  have hkp_266 := hkp_259.put hr_265
  clear hh_264
  refine lv_aload_n hx hb dX14_init_211 rfl (lv_at hl 0 rfl) ?_
  refine lv_sipush (v := 1500) hx hb dX14_init_212 (by decide) ?_
  clear hsz_256 htt_256
  have hsz_267 := hh_265.2.2.2.2.2.1
  have htt_267 := hh_265.2.2.2.2.2.2.1
  refine j7_newiK hx hb hK hh_265 hB (atype := .int) (ty := .int) (htw (.arrayClass .int) (jWr_3 _ (List.mem_of_getElem? (i := 20) rfl))) rfl rfl (fun _ h => h) hB101 1 rfl (by decide) (by decide) hbs (x := 1500) (by decide) (by omega) (fun j => by first | trivial | decide | rfl | exact Or.inl rfl | (refine ⟨?_, ?_⟩ <;> decide)) (by rw [hRc]; omega) (by rw [hRs]; omega) dX14_init_215 (fun H_267 hfr_267 hh_267 => ?_)
  have hh_267 : jSt (dC, dI) B base G0 (va_up G_256 H_265.size (some (101, 1500))) EX14_init s.heap ((((((((((((((((((((((((((((0 + 1) + 1) + 1) + 1) + 1) + (1)) + 1) + (1)) + 1) + 1) + 1) + 1) + 1) + 1) + 1) + 1) + 1) + 1) + 1) + 1) + 1) + (6)) + 1) + (6)) + 1) + (6)) + 1) + 1) ((((((((((((((((((((((((((((0 + 4000) + 20000) + 100000) + 3300) + 4) + (16)) + 4) + (16)) + 3100) + 3100) + 3100) + 3100) + 3100) + 3100) + 3100) + 3100) + 3100) + 3300) + 20) + 3) + 11) + (1700)) + 11) + (1700)) + 11) + (1700)) + 3100) + 1500) [(H_45.size, 0, 3, .int qc_52), (H_45.size, 0, 0, .ref xa_52), (H_31.size, 0, 3, .int qc_38), (H_31.size, 0, 0, .ref xa_38)] [(H_127.size, 123, 3100, ca 1, (fun _ => 0)), (H_112.size, 122, 3100, ca 1, (fun _ => 0))] [(jFz9, jDZ dC dI G_256), ([(201, 0)], jQc dC dI (ca 4) H_182.size 3 (va_up (va_up (va_up (fun _ => none) 0 (some H_184.size)) 1 (some H_205.size)) 2 (some H_224.size)))] H_267 locs_265 := hh_267
  have hZ_267 : jN14 G_256 (va_up G_256 H_265.size (some (101, 1500))) := jN14.new (by decide)
  have hN_267 : (jNk [1, 2, 3, 4, 5, 6, 7, 8, 9, 10, 11, 12, 13]) G_256 (va_up G_256 H_265.size (some (101, 1500))) := jNk.new (by decide)
  have hgn_267 : (va_up G_256 H_265.size (some (101, 1500))) H_265.size = some (101, 1500) := jUp_self
  have hle_267 : jLe G_256 (va_up G_256 H_265.size (some (101, 1500))) := jLe.new hh_265.2.1.fresh
  have hke_267 : jKe G_256 (va_up G_256 H_265.size (some (101, 1500))) H_265 H_267 := jKe.new hfr_267
  have hsy_267 : s.heap.size ≤ H_265.size := hh_265.1.1
  generalize (va_up G_256 H_265.size (some (101, 1500))) = G_267 at hN_267 hgn_267 hle_267 hke_267 hh_267 hZ_267
  clear hh_265
  have hNn_267 : (jNk [1, 2, 3, 4, 5, 6, 7, 8, 9, 10, 11, 12, 13]) G0 G_267 := (hNn_256).tr hN_267
  have hg_268 := hle_267 _ _ hg_257
  have hg_269 := hle_267 _ _ hg_258
  have hkp_270 := hkp_266.tr hke_267
  have hraw_271n := hke_267.nr hraw_265.lt hraw_260n
  have hraw_271 := hraw_265.kept (hke_267.1 _ hraw_265.lt)
  have hz14_267 : jN14 G0 G_267 := (hz14_256).tr hZ_267
  have hd_272 := jDZ.grow (hh_267.iv 0 rfl) hle_267 hZ_267
  have hh_273 := hh_267.sub (L1 := [(H_45.size, 0, 3, .int qc_52), (H_45.size, 0, 0, .ref xa_52), (H_31.size, 0, 3, .int qc_38), (H_31.size, 0, 0, .ref xa_38)]) [0, 1, 2, 3] rfl (M1 := [(H_127.size, 123, 3100, ca 1, (fun _ => 0)), (H_112.size, 122, 3100, ca 1, (fun _ => 0))]) [0, 1] rfl (I1 := [([(201, 0)], jQc dC dI (ca 4) H_182.size 3 (va_up (va_up (va_up (fun _ => none) 0 (some H_184.size)) 1 (some H_205.size)) 2 (some H_224.size)))]) [1] rfl
  clear hh_267
  have hh_274 := hh_273.addI (jDZ.ie hd_272)
  clear hh_273
  refine j7_putRF hx hb hown hK hh_274 hB hAp hraw_271 hraw_271n hbr0 (C := RX14) (T := TX14) (N := 74) rfl (i := 45) (by decide) (Nat.le_of_ble_eq_true rfl) hly_16_45 rfl hin2 rfl hlk_81 (ty := (.array .int)) (v := .ref H_265.size) (by decide +kernel) rfl rfl dX14_init_217 (fun H_276 locs_276 hraw_276 hr_276 hh_276 => ?_)
  have hraw_276 : va_at (dC, dI) vwCl (r0, .inr (16, [.ref s.heap.size, .int 0, .ref H_7.size, .int 0, .int 0, .ref H_15.size, .int 0, .int 0, .int 0, .ref H_23.size, .int 0, .int 0, .int 0, .ref H_31.size, .ref H_45.size, .int (-1), .int 0, .ref H_62.size, .ref H_72.size, .ref H_82.size, .ref H_92.size, .ref H_102.size, .ref H_112.size, .ref H_127.size, .ref H_142.size, .ref H_152.size, .int 0, .ref H_162.size, .int 0, .int 0, .int 0, .int 0, .int 0, .int 0, .int 0, .int 0, .int 0, .int 0, .ref H_172.size, .int 0, .int 0, .ref H_182.size, .int 0, .ref H_254.size, .int 0, .ref H_265.size, .null, .null, .int 0, .null, .null, .null, .null, .null, .null, .null, .null, .null, .null, .null, .null, .null, .null, .null, .int 0, .int 0, .int 0, .null, .null, .null, .int 0, .null, .null, .null])) H_276 := hraw_276
  have hkp_277 := hkp_270.put hr_276
  clear hh_274
  refine lv_aload_n hx hb dX14_init_220 rfl (lv_at hl 0 rfl) ?_
  have hlt_d2 : H_224.size < H_276.size := (hh_276.ab ((((hle_246).tr hle_256).tr hle_267) _ _ hgc_235)).2
  clear hsz_267 htt_267
  have hsz_278 := hh_276.2.2.2.2.2.1
  have htt_278 := hh_276.2.2.2.2.2.2.1
  refine j7_newo (k := 14) (C := RX12) (T := TX12) (N := 11) (fs := [.null, .int 0, .int 0, .null, .int 0, .int 0, .null, .null, .null, .int 0, .null]) hx hb htw jWc_wsX120 (fun k => ([(.array .int), .int, .int, (.array .int), .int, .int, (.array .int), (.array .int), (.array .int), .int, (.array .int)] : List FieldType).getD k .int) (by decide +kernel) hown (htw (.classLink RX14 71 RX12) (jWr_11 _ (List.mem_of_getElem? (i := 16) rfl))) (htw (.instantiable RX12 11) (jWr_11 _ (List.mem_of_getElem? (i := 17) rfl))) (htw (.initialized RX12) (jWr_11 _ (List.mem_of_getElem? (i := 18) rfl))) hK rfl (fun j hj => by rcases (by omega : j = 0 ∨ j = 1 ∨ j = 2 ∨ j = 3 ∨ j = 4 ∨ j = 5 ∨ j = 6 ∨ j = 7 ∨ j = 8 ∨ j = 9 ∨ j = 10) with rfl | rfl | rfl | rfl | rfl | rfl | rfl | rfl | rfl | rfl | rfl <;> rfl) hh_276 hB (by rw [hRc]; omega) (by rw [hRs]; omega) dX14_init_221 (fun H_278 hraw_278 hfr_278 hnr_278 hh_278 => ?_)
  have hlt_279 := hraw_276.lt
  have hke_278 : jKe G_267 G_267 H_276 H_278 := jKe.raw hfr_278
  have hbr_278 : base ≤ H_276.size := Nat.le_trans hbs hh_276.1.1
  have hsy_278 : s.heap.size ≤ H_276.size := hh_276.1.1
  clear hh_276
  have hkp_280 := hkp_277.tr hke_278
  have hraw_281n := hke_278.nr hraw_276.lt hraw_271n
  have hraw_281 := hraw_276.kept (hke_278.1 _ hraw_276.lt)
  have hne_282 : r0 ≠ H_276.size := Nat.ne_of_lt hlt_279
  refine lv_dup hx hb dX14_init_224 rfl ?_
  clear hsz_278 htt_278
  have hsz_283 := hh_278.2.2.2.2.2.1
  have htt_283 := hh_278.2.2.2.2.2.2.1
  refine W.room (fun hrc_283 hrs_283 => ?_)
  refine va_callv (A0 := jA base) (H0 := s.heap) (va_runIN (As := []) (rest := [.ref H_276.size, .ref r0]) ⟨hx, hb, hml, hown, hts⟩ (uX12_initE l dC dI ca base B hB hAp hB14 hB101 hB190 hB191 hB192 hB193 G_267 H_278 H_276.size LC LS) ⟨va_cnB 0 hts (jgW (jWr_13 _ (List.mem_of_getElem? (i := 21) rfl))) rfl rfl rfl (hG.2.2.1 RX14 73 yX12_init "ProofServerModel" (List.mem_of_getElem? (i := 1726) (by decide +kernel))) (htw (.initialized RX12) (jWr_11 _ (List.mem_of_getElem? (i := 18) rfl))) (by decide +kernel) ⟨by rw [← hR]; exact Nat.le_of_ble_eq_true rfl, by rw [← hR]; exact Nat.le_of_ble_eq_true rfl⟩, rfl, htw (.instanceMethod yX12_init) (jWr_13 _ (List.mem_of_getElem? (i := 20) rfl))⟩ ⟨fun a U g mk q => by obtain ⟨q0, q1, q2, qK, q10, q11, q12, q13, q14, q15⟩ := q; exact ⟨q0, q1, q2, jG.calling g mk a qK, q10, q11, q12, q13, q14, q15⟩, fun U hU hW => ⟨rfl, hU, hh_278.2.1, hG.step hW hU hh_278.1, hraw_278, hnr_278, hbr_278, jP.nil, (hh_278.2.2.2.2.2.2.2.2.sub (L1 := [(jFz9, jDZ dC dI G_267)]) [0] rfl), (by omega), (by omega), trivial⟩⟩ rfl rfl hl.1 rfl (lv_room (Nat.le_of_ble_eq_true rfl)) dX14_init_225 ⟨by rw [hRc]; omega, by rw [hRs]; omega⟩) hh_278.1 (fun q _ h => h) (fun q h => h) (fun u_283 t_283 H_283 locs_283 ht_283 hvm_283 hr_284 hb_283 hz_283 hk_283 hS_283 => ?_)
  rw [ht_283] at hb_283
  obtain ⟨G_283, rfl⟩ : ∃ z, z = u_283 := ⟨_, rfl⟩
  try simp only at hb_283
  obtain ⟨⟨hb_2831, hb_2832, hb_2833, hb_2834, hb_2835, hb_2836⟩, hN_283, hgc_283, hbX_283, hbE_283⟩ := hb_283
  have hN_283 : (jNk [1, 2, 3, 4, 5, 6, 7, 8, 9, 10, 11, 12, 13]) G_267 G_283 := hN_283.sub (by decide)
  have hh_283 : jSt (dC, dI) B base G0 G_283 EX14_init s.heap ((((((((((((((((((((((((((((((0 + 1) + 1) + 1) + 1) + 1) + (1)) + 1) + (1)) + 1) + 1) + 1) + 1) + 1) + 1) + 1) + 1) + 1) + 1) + 1) + 1) + 1) + (6)) + 1) + (6)) + 1) + (6)) + 1) + 1) + 1) + (6)) ((((((((((((((((((((((((((((((0 + 4000) + 20000) + 100000) + 3300) + 4) + (16)) + 4) + (16)) + 3100) + 3100) + 3100) + 3100) + 3100) + 3100) + 3100) + 3100) + 3100) + 3300) + 20) + 3) + 11) + (1700)) + 11) + (1700)) + 11) + (1700)) + 3100) + 1500) + 11) + (1700)) [(H_45.size, 0, 3, .int qc_52), (H_45.size, 0, 0, .ref xa_52), (H_31.size, 0, 3, .int qc_38), (H_31.size, 0, 0, .ref xa_38)] [(H_127.size, 123, 3100, ca 1, (fun _ => 0)), (H_112.size, 122, 3100, ca 1, (fun _ => 0))] [([(201, 0)], jQc dC dI (ca 4) H_182.size 3 (va_up (va_up (va_up (fun _ => none) 0 (some H_184.size)) 1 (some H_205.size)) 2 (some H_224.size)))] H_283 locs_283 := (hh_278.callG hb_2831 hb_2832 hb_2833 hb_2834 hb_2835 hS_283 rfl (L1 := [(H_45.size, 0, 3, .int qc_52), (H_45.size, 0, 0, .ref xa_52), (H_31.size, 0, 3, .int qc_38), (H_31.size, 0, 0, .ref xa_38)]) [0, 1, 2, 3] rfl rfl (M1 := [(H_127.size, 123, 3100, ca 1, (fun _ => 0)), (H_112.size, 122, 3100, ca 1, (fun _ => 0))]) [0, 1] rfl rfl (I1 := [([(201, 0)], jQc dC dI (ca 4) H_182.size 3 (va_up (va_up (va_up (fun _ => none) 0 (some H_184.size)) 1 (some H_205.size)) 2 (some H_224.size)))]) [1] rfl rfl).more hb_2836
  have hNn_283 : (jNk [1, 2, 3, 4, 5, 6, 7, 8, 9, 10, 11, 12, 13]) G0 G_283 := (hNn_267).tr hN_283
  have hg_285 := hb_2832 _ _ hg_268
  have hg_286 := hb_2832 _ _ hg_269
  have hh_288 := hh_283.addIs hbE_283
  try simp only at hr_284
  have hkp_289 := hkp_280.in hbX_283 hsy_278
  have hraw_290x := hbX_283.ke hraw_281.lt hne_282 hraw_281n
  have hraw_290 := hraw_281.kept hraw_290x.1
  refine j7_putRF hx hb hown hK hh_288 hB hAp hraw_290 hraw_290x.2 hbr0 (C := RX14) (T := TX14) (N := 74) rfl (i := 46) (by decide) (Nat.le_of_ble_eq_true rfl) hly_16_46 rfl hin2 rfl hlk_84 (ty := (.object "ProofServerModel$Document")) (v := .ref H_276.size) (by decide +kernel) rfl rfl dX14_init_228 (fun H_291 locs_291 hraw_291 hr_291 hh_291 => ?_)
  have hraw_291 : va_at (dC, dI) vwCl (r0, .inr (16, [.ref s.heap.size, .int 0, .ref H_7.size, .int 0, .int 0, .ref H_15.size, .int 0, .int 0, .int 0, .ref H_23.size, .int 0, .int 0, .int 0, .ref H_31.size, .ref H_45.size, .int (-1), .int 0, .ref H_62.size, .ref H_72.size, .ref H_82.size, .ref H_92.size, .ref H_102.size, .ref H_112.size, .ref H_127.size, .ref H_142.size, .ref H_152.size, .int 0, .ref H_162.size, .int 0, .int 0, .int 0, .int 0, .int 0, .int 0, .int 0, .int 0, .int 0, .int 0, .ref H_172.size, .int 0, .int 0, .ref H_182.size, .int 0, .ref H_254.size, .int 0, .ref H_265.size, .ref H_276.size, .null, .int 0, .null, .null, .null, .null, .null, .null, .null, .null, .null, .null, .null, .null, .null, .null, .null, .int 0, .int 0, .int 0, .null, .null, .null, .int 0, .null, .null, .null])) H_291 := hraw_291
  have hkp_292 := hkp_289.put hr_291
  clear hh_288
  refine lv_aload_n hx hb dX14_init_231 rfl (lv_at hl 0 rfl) ?_
  have hlt_ol : H_276.size < H_291.size := (hh_291.ab ((jLe.rf) _ _ hgc_283)).2
  clear hsz_283 htt_283 hrc_283 hrs_283
  have hsz_293 := hh_291.2.2.2.2.2.1
  have htt_293 := hh_291.2.2.2.2.2.2.1
  refine j7_newo (k := 14) (C := RX12) (T := TX12) (N := 11) (fs := [.null, .int 0, .int 0, .null, .int 0, .int 0, .null, .null, .null, .int 0, .null]) hx hb htw jWc_wsX120 (fun k => ([(.array .int), .int, .int, (.array .int), .int, .int, (.array .int), (.array .int), (.array .int), .int, (.array .int)] : List FieldType).getD k .int) (by decide +kernel) hown (htw (.classLink RX14 71 RX12) (jWr_11 _ (List.mem_of_getElem? (i := 16) rfl))) (htw (.instantiable RX12 11) (jWr_11 _ (List.mem_of_getElem? (i := 17) rfl))) (htw (.initialized RX12) (jWr_11 _ (List.mem_of_getElem? (i := 18) rfl))) hK rfl (fun j hj => by rcases (by omega : j = 0 ∨ j = 1 ∨ j = 2 ∨ j = 3 ∨ j = 4 ∨ j = 5 ∨ j = 6 ∨ j = 7 ∨ j = 8 ∨ j = 9 ∨ j = 10) with rfl | rfl | rfl | rfl | rfl | rfl | rfl | rfl | rfl | rfl | rfl <;> rfl) hh_291 hB (by rw [hRc]; omega) (by rw [hRs]; omega) dX14_init_232 (fun H_293 hraw_293 hfr_293 hnr_293 hh_293 => ?_)
  have hlt_294 := hraw_291.lt
  have hke_293 : jKe G_283 G_283 H_291 H_293 := jKe.raw hfr_293
  have hbr_293 : base ≤ H_291.size := Nat.le_trans hbs hh_291.1.1
  have hsy_293 : s.heap.size ≤ H_291.size := hh_291.1.1
  clear hh_291
  have hkp_295 := hkp_292.tr hke_293
  have hraw_296n := hke_293.nr hraw_291.lt hraw_290x.2
  have hraw_296 := hraw_291.kept (hke_293.1 _ hraw_291.lt)
  have hne_297 : r0 ≠ H_291.size := Nat.ne_of_lt hlt_294
  refine lv_dup hx hb dX14_init_235 rfl ?_
  clear hsz_293 htt_293
  have hsz_298 := hh_293.2.2.2.2.2.1
  have htt_298 := hh_293.2.2.2.2.2.2.1
  refine W.room (fun hrc_298 hrs_298 => ?_)
  refine va_callv (A0 := jA base) (H0 := s.heap) (va_runIN (As := []) (rest := [.ref H_291.size, .ref r0]) ⟨hx, hb, hml, hown, hts⟩ (uX12_initE l dC dI ca base B hB hAp hB14 hB101 hB190 hB191 hB192 hB193 G_283 H_293 H_291.size LC LS) ⟨va_cnB 0 hts (jgW (jWr_13 _ (List.mem_of_getElem? (i := 21) rfl))) rfl rfl rfl (hG.2.2.1 RX14 73 yX12_init "ProofServerModel" (List.mem_of_getElem? (i := 1726) (by decide +kernel))) (htw (.initialized RX12) (jWr_11 _ (List.mem_of_getElem? (i := 18) rfl))) (by decide +kernel) ⟨by rw [← hR]; exact Nat.le_of_ble_eq_true rfl, by rw [← hR]; exact Nat.le_of_ble_eq_true rfl⟩, rfl, htw (.instanceMethod yX12_init) (jWr_13 _ (List.mem_of_getElem? (i := 20) rfl))⟩ ⟨fun a U g mk q => by obtain ⟨q0, q1, q2, qK, q10, q11, q12, q13, q14, q15⟩ := q; exact ⟨q0, q1, q2, jG.calling g mk a qK, q10, q11, q12, q13, q14, q15⟩, fun U hU hW => ⟨rfl, hU, hh_293.2.1, hG.step hW hU hh_293.1, hraw_293, hnr_293, hbr_293, jP.nil, (hh_293.2.2.2.2.2.2.2.2.sub (L1 := [(jFz9, jDZ dC dI G_283)]) [0] rfl), (by omega), (by omega), trivial⟩⟩ rfl rfl hl.1 rfl (lv_room (Nat.le_of_ble_eq_true rfl)) dX14_init_236 ⟨by rw [hRc]; omega, by rw [hRs]; omega⟩) hh_293.1 (fun q _ h => h) (fun q h => h) (fun u_298 t_298 H_298 locs_298 ht_298 hvm_298 hr_299 hb_298 hz_298 hk_298 hS_298 => ?_)
  rw [ht_298] at hb_298
  obtain ⟨G_298, rfl⟩ : ∃ z, z = u_298 := ⟨_, rfl⟩
  try simp only at hb_298
  obtain ⟨⟨hb_2981, hb_2982, hb_2983, hb_2984, hb_2985, hb_2986⟩, hN_298, hgc_298, hbX_298, hbE_298⟩ := hb_298
  have hN_298 : (jNk [1, 2, 3, 4, 5, 6, 7, 8, 9, 10, 11, 12, 13]) G_283 G_298 := hN_298.sub (by decide)
  have hh_298 : jSt (dC, dI) B base G0 G_298 EX14_init s.heap ((((((((((((((((((((((((((((((((0 + 1) + 1) + 1) + 1) + 1) + (1)) + 1) + (1)) + 1) + 1) + 1) + 1) + 1) + 1) + 1) + 1) + 1) + 1) + 1) + 1) + 1) + (6)) + 1) + (6)) + 1) + (6)) + 1) + 1) + 1) + (6)) + 1) + (6)) ((((((((((((((((((((((((((((((((0 + 4000) + 20000) + 100000) + 3300) + 4) + (16)) + 4) + (16)) + 3100) + 3100) + 3100) + 3100) + 3100) + 3100) + 3100) + 3100) + 3100) + 3300) + 20) + 3) + 11) + (1700)) + 11) + (1700)) + 11) + (1700)) + 3100) + 1500) + 11) + (1700)) + 11) + (1700)) [(H_45.size, 0, 3, .int qc_52), (H_45.size, 0, 0, .ref xa_52), (H_31.size, 0, 3, .int qc_38), (H_31.size, 0, 0, .ref xa_38)] [(H_127.size, 123, 3100, ca 1, (fun _ => 0)), (H_112.size, 122, 3100, ca 1, (fun _ => 0))] [([(201, 0)], jQc dC dI (ca 4) H_182.size 3 (va_up (va_up (va_up (fun _ => none) 0 (some H_184.size)) 1 (some H_205.size)) 2 (some H_224.size)))] H_298 locs_298 := (hh_293.callG hb_2981 hb_2982 hb_2983 hb_2984 hb_2985 hS_298 rfl (L1 := [(H_45.size, 0, 3, .int qc_52), (H_45.size, 0, 0, .ref xa_52), (H_31.size, 0, 3, .int qc_38), (H_31.size, 0, 0, .ref xa_38)]) [0, 1, 2, 3] rfl rfl (M1 := [(H_127.size, 123, 3100, ca 1, (fun _ => 0)), (H_112.size, 122, 3100, ca 1, (fun _ => 0))]) [0, 1] rfl rfl (I1 := [([(201, 0)], jQc dC dI (ca 4) H_182.size 3 (va_up (va_up (va_up (fun _ => none) 0 (some H_184.size)) 1 (some H_205.size)) 2 (some H_224.size)))]) [1] rfl rfl).more hb_2986
  have hNn_298 : (jNk [1, 2, 3, 4, 5, 6, 7, 8, 9, 10, 11, 12, 13]) G0 G_298 := (hNn_283).tr hN_298
  have hg_300 := hb_2982 _ _ hg_285
  have hg_301 := hb_2982 _ _ hg_286
  have hh_303 := hh_298.addIs hbE_298
  try simp only at hr_299
  have hkp_304 := hkp_295.in hbX_298 hsy_293
  have hraw_305x := hbX_298.ke hraw_296.lt hne_297 hraw_296n
  have hraw_305 := hraw_296.kept hraw_305x.1
  refine j7_putRF hx hb hown hK hh_303 hB hAp hraw_305 hraw_305x.2 hbr0 (C := RX14) (T := TX14) (N := 74) rfl (i := 47) (by decide) (Nat.le_of_ble_eq_true rfl) hly_16_47 rfl hin2 rfl hlk_88 (ty := (.object "ProofServerModel$Document")) (v := .ref H_291.size) (by decide +kernel) rfl rfl dX14_init_239 (fun H_306 locs_306 hraw_306 hr_306 hh_306 => ?_)
  have hraw_306 : va_at (dC, dI) vwCl (r0, .inr (16, [.ref s.heap.size, .int 0, .ref H_7.size, .int 0, .int 0, .ref H_15.size, .int 0, .int 0, .int 0, .ref H_23.size, .int 0, .int 0, .int 0, .ref H_31.size, .ref H_45.size, .int (-1), .int 0, .ref H_62.size, .ref H_72.size, .ref H_82.size, .ref H_92.size, .ref H_102.size, .ref H_112.size, .ref H_127.size, .ref H_142.size, .ref H_152.size, .int 0, .ref H_162.size, .int 0, .int 0, .int 0, .int 0, .int 0, .int 0, .int 0, .int 0, .int 0, .int 0, .ref H_172.size, .int 0, .int 0, .ref H_182.size, .int 0, .ref H_254.size, .int 0, .ref H_265.size, .ref H_276.size, .ref H_291.size, .int 0, .null, .null, .null, .null, .null, .null, .null, .null, .null, .null, .null, .null, .null, .null, .null, .int 0, .int 0, .int 0, .null, .null, .null, .int 0, .null, .null, .null])) H_306 := hraw_306
  have hkp_307 := hkp_304.put hr_306
  clear hh_303
  refine lv_aload_n hx hb dX14_init_242 rfl (lv_at hl 0 rfl) ?_
  refine lv_bipush (v := 12) hx hb dX14_init_243 (by decide) ?_
  clear hsz_298 htt_298 hrc_298 hrs_298
  have hsz_308 := hh_306.2.2.2.2.2.1
  have htt_308 := hh_306.2.2.2.2.2.2.1
  have hsy_308 : s.heap.size ≤ H_306.size := hh_306.1.1
  refine j7_newqK hx hb hown (htw (.classLink RX14 71 RX12) (jWr_11 _ (List.mem_of_getElem? (i := 16) rfl))) hK6.1 hK2 hh_306 hB hB202 0 rfl (by decide) hbs (x := 12) (by decide) (by omega) (fun _ => Or.inl rfl) (by rw [hRc]; omega) (by rw [hRs]; omega) dX14_init_245 (fun H_308 hfr_308 hh_308 hqn_308 => ?_)
  have hh_308 : jSt (dC, dI) B base G0 (va_up G_298 H_306.size (some (202, 12))) EX14_init s.heap (((((((((((((((((((((((((((((((((0 + 1) + 1) + 1) + 1) + 1) + (1)) + 1) + (1)) + 1) + 1) + 1) + 1) + 1) + 1) + 1) + 1) + 1) + 1) + 1) + 1) + 1) + (6)) + 1) + (6)) + 1) + (6)) + 1) + 1) + 1) + (6)) + 1) + (6)) + 1) (((((((((((((((((((((((((((((((((0 + 4000) + 20000) + 100000) + 3300) + 4) + (16)) + 4) + (16)) + 3100) + 3100) + 3100) + 3100) + 3100) + 3100) + 3100) + 3100) + 3100) + 3300) + 20) + 3) + 11) + (1700)) + 11) + (1700)) + 11) + (1700)) + 3100) + 1500) + 11) + (1700)) + 11) + (1700)) + 12) [(H_45.size, 0, 3, .int qc_52), (H_45.size, 0, 0, .ref xa_52), (H_31.size, 0, 3, .int qc_38), (H_31.size, 0, 0, .ref xa_38)] [(H_127.size, 123, 3100, ca 1, (fun _ => 0)), (H_112.size, 122, 3100, ca 1, (fun _ => 0))] [(jFz9, jDZ dC dI G_298), ([(201, 0)], jQc dC dI (ca 4) H_182.size 3 (va_up (va_up (va_up (fun _ => none) 0 (some H_184.size)) 1 (some H_205.size)) 2 (some H_224.size)))] H_308 locs_306 := hh_308
  have hZ_308 : jN14 G_298 (va_up G_298 H_306.size (some (202, 12))) := jN14.new (by decide)
  have hN_308 : (jNk [1, 2, 3, 4, 5, 6, 7, 8, 9, 10, 11, 12, 13]) G_298 (va_up G_298 H_306.size (some (202, 12))) := jNk.new (by decide)
  have hgn_308 : (va_up G_298 H_306.size (some (202, 12))) H_306.size = some (202, 12) := jUp_self
  have hle_308 : jLe G_298 (va_up G_298 H_306.size (some (202, 12))) := jLe.new hh_306.2.1.fresh
  have hke_308 : jKe G_298 (va_up G_298 H_306.size (some (202, 12))) H_306 H_308 := jKe.new hfr_308
  have hsy_308 : s.heap.size ≤ H_306.size := hh_306.1.1
  generalize (va_up G_298 H_306.size (some (202, 12))) = G_308 at hN_308 hgn_308 hle_308 hke_308 hh_308 hZ_308
  clear hh_306
  have hNn_308 : (jNk [1, 2, 3, 4, 5, 6, 7, 8, 9, 10, 11, 12, 13]) G0 G_308 := (hNn_298).tr hN_308
  have hg_309 := hle_308 _ _ hg_300
  have hg_310 := hle_308 _ _ hg_301
  have hkp_311 := hkp_307.tr hke_308
  have hraw_312n := hke_308.nr hraw_306.lt hraw_305x.2
  have hraw_312 := hraw_306.kept (hke_308.1 _ hraw_306.lt)
  have hz14_308 : jN14 G0 G_308 := (hz14_267).tr hZ_308
  have hd_313 := jDZ.grow (hh_308.iv 0 rfl) hle_308 hZ_308
  have hh_314 := hh_308.sub (L1 := [(H_45.size, 0, 3, .int qc_52), (H_45.size, 0, 0, .ref xa_52), (H_31.size, 0, 3, .int qc_38), (H_31.size, 0, 0, .ref xa_38)]) [0, 1, 2, 3] rfl (M1 := [(H_127.size, 123, 3100, ca 1, (fun _ => 0)), (H_112.size, 122, 3100, ca 1, (fun _ => 0))]) [0, 1] rfl (I1 := [([(201, 0)], jQc dC dI (ca 4) H_182.size 3 (va_up (va_up (va_up (fun _ => none) 0 (some H_184.size)) 1 (some H_205.size)) 2 (some H_224.size)))]) [1] rfl
  clear hh_308
  have hh_315 := hh_314.addI (jDZ.ie hd_313)
  clear hh_314
  refine j7_putRF hx hb hown hK hh_315 hB hAp hraw_312 hraw_312n hbr0 (C := RX14) (T := TX14) (N := 74) rfl (i := 49) (by decide) (Nat.le_of_ble_eq_true rfl) hly_16_49 rfl hin2 rfl hlk_91 (ty := (.array (.object "ProofServerModel$Document"))) (v := .ref H_306.size) (by decide +kernel) rfl rfl dX14_init_248 (fun H_317 locs_317 hraw_317 hr_317 hh_317 => ?_)
  have hraw_317 : va_at (dC, dI) vwCl (r0, .inr (16, [.ref s.heap.size, .int 0, .ref H_7.size, .int 0, .int 0, .ref H_15.size, .int 0, .int 0, .int 0, .ref H_23.size, .int 0, .int 0, .int 0, .ref H_31.size, .ref H_45.size, .int (-1), .int 0, .ref H_62.size, .ref H_72.size, .ref H_82.size, .ref H_92.size, .ref H_102.size, .ref H_112.size, .ref H_127.size, .ref H_142.size, .ref H_152.size, .int 0, .ref H_162.size, .int 0, .int 0, .int 0, .int 0, .int 0, .int 0, .int 0, .int 0, .int 0, .int 0, .ref H_172.size, .int 0, .int 0, .ref H_182.size, .int 0, .ref H_254.size, .int 0, .ref H_265.size, .ref H_276.size, .ref H_291.size, .int 0, .ref H_306.size, .null, .null, .null, .null, .null, .null, .null, .null, .null, .null, .null, .null, .null, .null, .int 0, .int 0, .int 0, .null, .null, .null, .int 0, .null, .null, .null])) H_317 := hraw_317
  have hkp_318 := hkp_311.put hr_317
  clear hh_315
  refine lv_aload_n hx hb dX14_init_251 rfl (lv_at hl 0 rfl) ?_
  refine lv_bipush (v := 12) hx hb dX14_init_252 (by decide) ?_
  clear hsz_308 htt_308
  have hsz_319 := hh_317.2.2.2.2.2.1
  have htt_319 := hh_317.2.2.2.2.2.2.1
  refine j7_newiK hx hb hK hh_317 hB (atype := .boolean) (ty := .boolean) (htw (.arrayClass .boolean) (jWr_11 _ (List.mem_of_getElem? (i := 11) rfl))) rfl rfl (fun _ h => h) hB103 3 rfl (by decide) (by decide) hbs (x := 12) (by decide) (by omega) (fun j => by first | trivial | decide | rfl | exact Or.inl rfl | (refine ⟨?_, ?_⟩ <;> decide)) (by rw [hRc]; omega) (by rw [hRs]; omega) dX14_init_254 (fun H_319 hfr_319 hh_319 => ?_)
  have hh_319 : jSt (dC, dI) B base G0 (va_up G_308 H_317.size (some (103, 12))) EX14_init s.heap ((((((((((((((((((((((((((((((((((0 + 1) + 1) + 1) + 1) + 1) + (1)) + 1) + (1)) + 1) + 1) + 1) + 1) + 1) + 1) + 1) + 1) + 1) + 1) + 1) + 1) + 1) + (6)) + 1) + (6)) + 1) + (6)) + 1) + 1) + 1) + (6)) + 1) + (6)) + 1) + 1) ((((((((((((((((((((((((((((((((((0 + 4000) + 20000) + 100000) + 3300) + 4) + (16)) + 4) + (16)) + 3100) + 3100) + 3100) + 3100) + 3100) + 3100) + 3100) + 3100) + 3100) + 3300) + 20) + 3) + 11) + (1700)) + 11) + (1700)) + 11) + (1700)) + 3100) + 1500) + 11) + (1700)) + 11) + (1700)) + 12) + 12) [(H_45.size, 0, 3, .int qc_52), (H_45.size, 0, 0, .ref xa_52), (H_31.size, 0, 3, .int qc_38), (H_31.size, 0, 0, .ref xa_38)] [(H_127.size, 123, 3100, ca 1, (fun _ => 0)), (H_112.size, 122, 3100, ca 1, (fun _ => 0))] [(jFz9, jDZ dC dI G_308), ([(201, 0)], jQc dC dI (ca 4) H_182.size 3 (va_up (va_up (va_up (fun _ => none) 0 (some H_184.size)) 1 (some H_205.size)) 2 (some H_224.size)))] H_319 locs_317 := hh_319
  have hZ_319 : jN14 G_308 (va_up G_308 H_317.size (some (103, 12))) := jN14.new (by decide)
  have hN_319 : (jNk [1, 2, 3, 4, 5, 6, 7, 8, 9, 10, 11, 12, 13]) G_308 (va_up G_308 H_317.size (some (103, 12))) := jNk.new (by decide)
  have hgn_319 : (va_up G_308 H_317.size (some (103, 12))) H_317.size = some (103, 12) := jUp_self
  have hle_319 : jLe G_308 (va_up G_308 H_317.size (some (103, 12))) := jLe.new hh_317.2.1.fresh
  have hke_319 : jKe G_308 (va_up G_308 H_317.size (some (103, 12))) H_317 H_319 := jKe.new hfr_319
  have hsy_319 : s.heap.size ≤ H_317.size := hh_317.1.1
  generalize (va_up G_308 H_317.size (some (103, 12))) = G_319 at hN_319 hgn_319 hle_319 hke_319 hh_319 hZ_319
  clear hh_317
  have hNn_319 : (jNk [1, 2, 3, 4, 5, 6, 7, 8, 9, 10, 11, 12, 13]) G0 G_319 := (hNn_308).tr hN_319
  have hg_320 := hle_319 _ _ hg_309
  have hg_321 := hle_319 _ _ hg_310
  have hkp_322 := hkp_318.tr hke_319
  have hraw_323n := hke_319.nr hraw_317.lt hraw_312n
  have hraw_323 := hraw_317.kept (hke_319.1 _ hraw_317.lt)
  have hz14_319 : jN14 G0 G_319 := (hz14_308).tr hZ_319
  have hd_324 := jDZ.grow (hh_319.iv 0 rfl) hle_319 hZ_319
  have hh_325 := hh_319.sub (L1 := [(H_45.size, 0, 3, .int qc_52), (H_45.size, 0, 0, .ref xa_52), (H_31.size, 0, 3, .int qc_38), (H_31.size, 0, 0, .ref xa_38)]) [0, 1, 2, 3] rfl (M1 := [(H_127.size, 123, 3100, ca 1, (fun _ => 0)), (H_112.size, 122, 3100, ca 1, (fun _ => 0))]) [0, 1] rfl (I1 := [([(201, 0)], jQc dC dI (ca 4) H_182.size 3 (va_up (va_up (va_up (fun _ => none) 0 (some H_184.size)) 1 (some H_205.size)) 2 (some H_224.size)))]) [1] rfl
  clear hh_319
  have hh_326 := hh_325.addI (jDZ.ie hd_324)
  clear hh_325
  refine j7_putRF hx hb hown hK hh_326 hB hAp hraw_323 hraw_323n hbr0 (C := RX14) (T := TX14) (N := 74) rfl (i := 50) (by decide) (Nat.le_of_ble_eq_true rfl) hly_16_50 rfl hin2 rfl hlk_94 (ty := (.array .boolean)) (v := .ref H_317.size) (by decide +kernel) rfl rfl dX14_init_256 (fun H_328 locs_328 hraw_328 hr_328 hh_328 => ?_)
  have hraw_328 : va_at (dC, dI) vwCl (r0, .inr (16, [.ref s.heap.size, .int 0, .ref H_7.size, .int 0, .int 0, .ref H_15.size, .int 0, .int 0, .int 0, .ref H_23.size, .int 0, .int 0, .int 0, .ref H_31.size, .ref H_45.size, .int (-1), .int 0, .ref H_62.size, .ref H_72.size, .ref H_82.size, .ref H_92.size, .ref H_102.size, .ref H_112.size, .ref H_127.size, .ref H_142.size, .ref H_152.size, .int 0, .ref H_162.size, .int 0, .int 0, .int 0, .int 0, .int 0, .int 0, .int 0, .int 0, .int 0, .int 0, .ref H_172.size, .int 0, .int 0, .ref H_182.size, .int 0, .ref H_254.size, .int 0, .ref H_265.size, .ref H_276.size, .ref H_291.size, .int 0, .ref H_306.size, .ref H_317.size, .null, .null, .null, .null, .null, .null, .null, .null, .null, .null, .null, .null, .null, .int 0, .int 0, .int 0, .null, .null, .null, .int 0, .null, .null, .null])) H_328 := hraw_328
  have hkp_329 := hkp_322.put hr_328
  clear hh_326
  refine lv_aload_n hx hb dX14_init_259 rfl (lv_at hl 0 rfl) ?_
  refine lv_bipush (v := 12) hx hb dX14_init_260 (by decide) ?_
  clear hsz_319 htt_319
  have hsz_330 := hh_328.2.2.2.2.2.1
  have htt_330 := hh_328.2.2.2.2.2.2.1
  refine j7_newiK hx hb hK hh_328 hB (atype := .int) (ty := .int) (htw (.arrayClass .int) (jWr_3 _ (List.mem_of_getElem? (i := 20) rfl))) rfl rfl (fun _ h => h) hB206 1 rfl (by decide) (by decide) hbs (x := 12) (by decide) (by omega) (fun j => by first | trivial | decide | rfl | exact Or.inl rfl | (refine ⟨?_, ?_⟩ <;> decide)) (by rw [hRc]; omega) (by rw [hRs]; omega) dX14_init_262 (fun H_330 hfr_330 hh_330 => ?_)
  have hh_330 : jSt (dC, dI) B base G0 (va_up G_319 H_328.size (some (206, 12))) EX14_init s.heap (((((((((((((((((((((((((((((((((((0 + 1) + 1) + 1) + 1) + 1) + (1)) + 1) + (1)) + 1) + 1) + 1) + 1) + 1) + 1) + 1) + 1) + 1) + 1) + 1) + 1) + 1) + (6)) + 1) + (6)) + 1) + (6)) + 1) + 1) + 1) + (6)) + 1) + (6)) + 1) + 1) + 1) (((((((((((((((((((((((((((((((((((0 + 4000) + 20000) + 100000) + 3300) + 4) + (16)) + 4) + (16)) + 3100) + 3100) + 3100) + 3100) + 3100) + 3100) + 3100) + 3100) + 3100) + 3300) + 20) + 3) + 11) + (1700)) + 11) + (1700)) + 11) + (1700)) + 3100) + 1500) + 11) + (1700)) + 11) + (1700)) + 12) + 12) + 12) [(H_45.size, 0, 3, .int qc_52), (H_45.size, 0, 0, .ref xa_52), (H_31.size, 0, 3, .int qc_38), (H_31.size, 0, 0, .ref xa_38)] [(H_127.size, 123, 3100, ca 1, (fun _ => 0)), (H_112.size, 122, 3100, ca 1, (fun _ => 0))] [(jFz9, jDZ dC dI G_319), ([(201, 0)], jQc dC dI (ca 4) H_182.size 3 (va_up (va_up (va_up (fun _ => none) 0 (some H_184.size)) 1 (some H_205.size)) 2 (some H_224.size)))] H_330 locs_328 := hh_330
  have hZ_330 : jN14 G_319 (va_up G_319 H_328.size (some (206, 12))) := jN14.new (by decide)
  have hN_330 : (jNk [1, 2, 3, 4, 5, 6, 7, 8, 9, 10, 11, 12, 13]) G_319 (va_up G_319 H_328.size (some (206, 12))) := jNk.new (by decide)
  have hgn_330 : (va_up G_319 H_328.size (some (206, 12))) H_328.size = some (206, 12) := jUp_self
  have hle_330 : jLe G_319 (va_up G_319 H_328.size (some (206, 12))) := jLe.new hh_328.2.1.fresh
  have hke_330 : jKe G_319 (va_up G_319 H_328.size (some (206, 12))) H_328 H_330 := jKe.new hfr_330
  have hsy_330 : s.heap.size ≤ H_328.size := hh_328.1.1
  generalize (va_up G_319 H_328.size (some (206, 12))) = G_330 at hN_330 hgn_330 hle_330 hke_330 hh_330 hZ_330
  clear hh_328
  have hNn_330 : (jNk [1, 2, 3, 4, 5, 6, 7, 8, 9, 10, 11, 12, 13]) G0 G_330 := (hNn_319).tr hN_330
  have hg_331 := hle_330 _ _ hg_320
  have hg_332 := hle_330 _ _ hg_321
  have hkp_333 := hkp_329.tr hke_330
  have hraw_334n := hke_330.nr hraw_328.lt hraw_323n
  have hraw_334 := hraw_328.kept (hke_330.1 _ hraw_328.lt)
  have hz14_330 : jN14 G0 G_330 := (hz14_319).tr hZ_330
  have hd_335 := jDZ.grow (hh_330.iv 0 rfl) hle_330 hZ_330
  have hh_336 := hh_330.sub (L1 := [(H_45.size, 0, 3, .int qc_52), (H_45.size, 0, 0, .ref xa_52), (H_31.size, 0, 3, .int qc_38), (H_31.size, 0, 0, .ref xa_38)]) [0, 1, 2, 3] rfl (M1 := [(H_127.size, 123, 3100, ca 1, (fun _ => 0)), (H_112.size, 122, 3100, ca 1, (fun _ => 0))]) [0, 1] rfl (I1 := [([(201, 0)], jQc dC dI (ca 4) H_182.size 3 (va_up (va_up (va_up (fun _ => none) 0 (some H_184.size)) 1 (some H_205.size)) 2 (some H_224.size)))]) [1] rfl
  clear hh_330
  have hh_337 := hh_336.addI (jDZ.ie hd_335)
  clear hh_336
  refine j7_putRF hx hb hown hK hh_337 hB hAp hraw_334 hraw_334n hbr0 (C := RX14) (T := TX14) (N := 74) rfl (i := 51) (by decide) (Nat.le_of_ble_eq_true rfl) hly_16_51 rfl hin2 rfl hlk_97 (ty := (.array .int)) (v := .ref H_328.size) (by decide +kernel) rfl rfl dX14_init_264 (fun H_339 locs_339 hraw_339 hr_339 hh_339 => ?_)
  have hraw_339 : va_at (dC, dI) vwCl (r0, .inr (16, [.ref s.heap.size, .int 0, .ref H_7.size, .int 0, .int 0, .ref H_15.size, .int 0, .int 0, .int 0, .ref H_23.size, .int 0, .int 0, .int 0, .ref H_31.size, .ref H_45.size, .int (-1), .int 0, .ref H_62.size, .ref H_72.size, .ref H_82.size, .ref H_92.size, .ref H_102.size, .ref H_112.size, .ref H_127.size, .ref H_142.size, .ref H_152.size, .int 0, .ref H_162.size, .int 0, .int 0, .int 0, .int 0, .int 0, .int 0, .int 0, .int 0, .int 0, .int 0, .ref H_172.size, .int 0, .int 0, .ref H_182.size, .int 0, .ref H_254.size, .int 0, .ref H_265.size, .ref H_276.size, .ref H_291.size, .int 0, .ref H_306.size, .ref H_317.size, .ref H_328.size, .null, .null, .null, .null, .null, .null, .null, .null, .null, .null, .null, .null, .int 0, .int 0, .int 0, .null, .null, .null, .int 0, .null, .null, .null])) H_339 := hraw_339
  have hkp_340 := hkp_333.put hr_339
  clear hh_337
  refine lv_aload_n hx hb dX14_init_267 rfl (lv_at hl 0 rfl) ?_
  refine lv_bipush (v := 12) hx hb dX14_init_268 (by decide) ?_
  clear hsz_330 htt_330
  have hsz_341 := hh_339.2.2.2.2.2.1
  have htt_341 := hh_339.2.2.2.2.2.2.1
  refine j7_newiK hx hb hK hh_339 hB (atype := .boolean) (ty := .boolean) (htw (.arrayClass .boolean) (jWr_11 _ (List.mem_of_getElem? (i := 11) rfl))) rfl rfl (fun _ h => h) hB103 3 rfl (by decide) (by decide) hbs (x := 12) (by decide) (by omega) (fun j => by first | trivial | decide | rfl | exact Or.inl rfl | (refine ⟨?_, ?_⟩ <;> decide)) (by rw [hRc]; omega) (by rw [hRs]; omega) dX14_init_270 (fun H_341 hfr_341 hh_341 => ?_)
  have hh_341 : jSt (dC, dI) B base G0 (va_up G_330 H_339.size (some (103, 12))) EX14_init s.heap ((((((((((((((((((((((((((((((((((((0 + 1) + 1) + 1) + 1) + 1) + (1)) + 1) + (1)) + 1) + 1) + 1) + 1) + 1) + 1) + 1) + 1) + 1) + 1) + 1) + 1) + 1) + (6)) + 1) + (6)) + 1) + (6)) + 1) + 1) + 1) + (6)) + 1) + (6)) + 1) + 1) + 1) + 1) ((((((((((((((((((((((((((((((((((((0 + 4000) + 20000) + 100000) + 3300) + 4) + (16)) + 4) + (16)) + 3100) + 3100) + 3100) + 3100) + 3100) + 3100) + 3100) + 3100) + 3100) + 3300) + 20) + 3) + 11) + (1700)) + 11) + (1700)) + 11) + (1700)) + 3100) + 1500) + 11) + (1700)) + 11) + (1700)) + 12) + 12) + 12) + 12) [(H_45.size, 0, 3, .int qc_52), (H_45.size, 0, 0, .ref xa_52), (H_31.size, 0, 3, .int qc_38), (H_31.size, 0, 0, .ref xa_38)] [(H_127.size, 123, 3100, ca 1, (fun _ => 0)), (H_112.size, 122, 3100, ca 1, (fun _ => 0))] [(jFz9, jDZ dC dI G_330), ([(201, 0)], jQc dC dI (ca 4) H_182.size 3 (va_up (va_up (va_up (fun _ => none) 0 (some H_184.size)) 1 (some H_205.size)) 2 (some H_224.size)))] H_341 locs_339 := hh_341
  have hZ_341 : jN14 G_330 (va_up G_330 H_339.size (some (103, 12))) := jN14.new (by decide)
  have hN_341 : (jNk [1, 2, 3, 4, 5, 6, 7, 8, 9, 10, 11, 12, 13]) G_330 (va_up G_330 H_339.size (some (103, 12))) := jNk.new (by decide)
  have hgn_341 : (va_up G_330 H_339.size (some (103, 12))) H_339.size = some (103, 12) := jUp_self
  have hle_341 : jLe G_330 (va_up G_330 H_339.size (some (103, 12))) := jLe.new hh_339.2.1.fresh
  have hke_341 : jKe G_330 (va_up G_330 H_339.size (some (103, 12))) H_339 H_341 := jKe.new hfr_341
  have hsy_341 : s.heap.size ≤ H_339.size := hh_339.1.1
  generalize (va_up G_330 H_339.size (some (103, 12))) = G_341 at hN_341 hgn_341 hle_341 hke_341 hh_341 hZ_341
  clear hh_339
  have hNn_341 : (jNk [1, 2, 3, 4, 5, 6, 7, 8, 9, 10, 11, 12, 13]) G0 G_341 := (hNn_330).tr hN_341
  have hg_342 := hle_341 _ _ hg_331
  have hg_343 := hle_341 _ _ hg_332
  have hkp_344 := hkp_340.tr hke_341
  have hraw_345n := hke_341.nr hraw_339.lt hraw_334n
  have hraw_345 := hraw_339.kept (hke_341.1 _ hraw_339.lt)
  have hz14_341 : jN14 G0 G_341 := (hz14_330).tr hZ_341
  have hd_346 := jDZ.grow (hh_341.iv 0 rfl) hle_341 hZ_341
  have hh_347 := hh_341.sub (L1 := [(H_45.size, 0, 3, .int qc_52), (H_45.size, 0, 0, .ref xa_52), (H_31.size, 0, 3, .int qc_38), (H_31.size, 0, 0, .ref xa_38)]) [0, 1, 2, 3] rfl (M1 := [(H_127.size, 123, 3100, ca 1, (fun _ => 0)), (H_112.size, 122, 3100, ca 1, (fun _ => 0))]) [0, 1] rfl (I1 := [([(201, 0)], jQc dC dI (ca 4) H_182.size 3 (va_up (va_up (va_up (fun _ => none) 0 (some H_184.size)) 1 (some H_205.size)) 2 (some H_224.size)))]) [1] rfl
  clear hh_341
  have hh_348 := hh_347.addI (jDZ.ie hd_346)
  clear hh_347
  refine j7_putRF hx hb hown hK hh_348 hB hAp hraw_345 hraw_345n hbr0 (C := RX14) (T := TX14) (N := 74) rfl (i := 52) (by decide) (Nat.le_of_ble_eq_true rfl) hly_16_52 rfl hin2 rfl hlk_100 (ty := (.array .boolean)) (v := .ref H_339.size) (by decide +kernel) rfl rfl dX14_init_272 (fun H_350 locs_350 hraw_350 hr_350 hh_350 => ?_)
  have hraw_350 : va_at (dC, dI) vwCl (r0, .inr (16, [.ref s.heap.size, .int 0, .ref H_7.size, .int 0, .int 0, .ref H_15.size, .int 0, .int 0, .int 0, .ref H_23.size, .int 0, .int 0, .int 0, .ref H_31.size, .ref H_45.size, .int (-1), .int 0, .ref H_62.size, .ref H_72.size, .ref H_82.size, .ref H_92.size, .ref H_102.size, .ref H_112.size, .ref H_127.size, .ref H_142.size, .ref H_152.size, .int 0, .ref H_162.size, .int 0, .int 0, .int 0, .int 0, .int 0, .int 0, .int 0, .int 0, .int 0, .int 0, .ref H_172.size, .int 0, .int 0, .ref H_182.size, .int 0, .ref H_254.size, .int 0, .ref H_265.size, .ref H_276.size, .ref H_291.size, .int 0, .ref H_306.size, .ref H_317.size, .ref H_328.size, .ref H_339.size, .null, .null, .null, .null, .null, .null, .null, .null, .null, .null, .null, .int 0, .int 0, .int 0, .null, .null, .null, .int 0, .null, .null, .null])) H_350 := hraw_350
  have hkp_351 := hkp_344.put hr_350
  clear hh_348
  refine lv_aload_n hx hb dX14_init_275 rfl (lv_at hl 0 rfl) ?_
  refine lv_bipush (v := 12) hx hb dX14_init_276 (by decide) ?_
  clear hsz_341 htt_341
  have hsz_352 := hh_350.2.2.2.2.2.1
  have htt_352 := hh_350.2.2.2.2.2.2.1
  refine j7_newiK hx hb hK hh_350 hB (atype := .int) (ty := .int) (htw (.arrayClass .int) (jWr_3 _ (List.mem_of_getElem? (i := 20) rfl))) rfl rfl (fun _ h => h) hB101 1 rfl (by decide) (by decide) hbs (x := 12) (by decide) (by omega) (fun j => by first | trivial | decide | rfl | exact Or.inl rfl | (refine ⟨?_, ?_⟩ <;> decide)) (by rw [hRc]; omega) (by rw [hRs]; omega) dX14_init_278 (fun H_352 hfr_352 hh_352 => ?_)
  have hh_352 : jSt (dC, dI) B base G0 (va_up G_341 H_350.size (some (101, 12))) EX14_init s.heap (((((((((((((((((((((((((((((((((((((0 + 1) + 1) + 1) + 1) + 1) + (1)) + 1) + (1)) + 1) + 1) + 1) + 1) + 1) + 1) + 1) + 1) + 1) + 1) + 1) + 1) + 1) + (6)) + 1) + (6)) + 1) + (6)) + 1) + 1) + 1) + (6)) + 1) + (6)) + 1) + 1) + 1) + 1) + 1) (((((((((((((((((((((((((((((((((((((0 + 4000) + 20000) + 100000) + 3300) + 4) + (16)) + 4) + (16)) + 3100) + 3100) + 3100) + 3100) + 3100) + 3100) + 3100) + 3100) + 3100) + 3300) + 20) + 3) + 11) + (1700)) + 11) + (1700)) + 11) + (1700)) + 3100) + 1500) + 11) + (1700)) + 11) + (1700)) + 12) + 12) + 12) + 12) + 12) [(H_45.size, 0, 3, .int qc_52), (H_45.size, 0, 0, .ref xa_52), (H_31.size, 0, 3, .int qc_38), (H_31.size, 0, 0, .ref xa_38)] [(H_127.size, 123, 3100, ca 1, (fun _ => 0)), (H_112.size, 122, 3100, ca 1, (fun _ => 0))] [(jFz9, jDZ dC dI G_341), ([(201, 0)], jQc dC dI (ca 4) H_182.size 3 (va_up (va_up (va_up (fun _ => none) 0 (some H_184.size)) 1 (some H_205.size)) 2 (some H_224.size)))] H_352 locs_350 := hh_352
  have hZ_352 : jN14 G_341 (va_up G_341 H_350.size (some (101, 12))) := jN14.new (by decide)
  have hN_352 : (jNk [1, 2, 3, 4, 5, 6, 7, 8, 9, 10, 11, 12, 13]) G_341 (va_up G_341 H_350.size (some (101, 12))) := jNk.new (by decide)
  have hgn_352 : (va_up G_341 H_350.size (some (101, 12))) H_350.size = some (101, 12) := jUp_self
  have hle_352 : jLe G_341 (va_up G_341 H_350.size (some (101, 12))) := jLe.new hh_350.2.1.fresh
  have hke_352 : jKe G_341 (va_up G_341 H_350.size (some (101, 12))) H_350 H_352 := jKe.new hfr_352
  have hsy_352 : s.heap.size ≤ H_350.size := hh_350.1.1
  generalize (va_up G_341 H_350.size (some (101, 12))) = G_352 at hN_352 hgn_352 hle_352 hke_352 hh_352 hZ_352
  clear hh_350
  have hNn_352 : (jNk [1, 2, 3, 4, 5, 6, 7, 8, 9, 10, 11, 12, 13]) G0 G_352 := (hNn_341).tr hN_352
  have hg_353 := hle_352 _ _ hg_342
  have hg_354 := hle_352 _ _ hg_343
  have hkp_355 := hkp_351.tr hke_352
  have hraw_356n := hke_352.nr hraw_350.lt hraw_345n
  have hraw_356 := hraw_350.kept (hke_352.1 _ hraw_350.lt)
  have hz14_352 : jN14 G0 G_352 := (hz14_341).tr hZ_352
  have hd_357 := jDZ.grow (hh_352.iv 0 rfl) hle_352 hZ_352
  have hh_358 := hh_352.sub (L1 := [(H_45.size, 0, 3, .int qc_52), (H_45.size, 0, 0, .ref xa_52), (H_31.size, 0, 3, .int qc_38), (H_31.size, 0, 0, .ref xa_38)]) [0, 1, 2, 3] rfl (M1 := [(H_127.size, 123, 3100, ca 1, (fun _ => 0)), (H_112.size, 122, 3100, ca 1, (fun _ => 0))]) [0, 1] rfl (I1 := [([(201, 0)], jQc dC dI (ca 4) H_182.size 3 (va_up (va_up (va_up (fun _ => none) 0 (some H_184.size)) 1 (some H_205.size)) 2 (some H_224.size)))]) [1] rfl
  clear hh_352
  have hh_359 := hh_358.addI (jDZ.ie hd_357)
  clear hh_358
  refine j7_putRF hx hb hown hK hh_359 hB hAp hraw_356 hraw_356n hbr0 (C := RX14) (T := TX14) (N := 74) rfl (i := 53) (by decide) (Nat.le_of_ble_eq_true rfl) hly_16_53 rfl hin2 rfl hlk_103 (ty := (.array .int)) (v := .ref H_350.size) (by decide +kernel) rfl rfl dX14_init_280 (fun H_361 locs_361 hraw_361 hr_361 hh_361 => ?_)
  have hraw_361 : va_at (dC, dI) vwCl (r0, .inr (16, [.ref s.heap.size, .int 0, .ref H_7.size, .int 0, .int 0, .ref H_15.size, .int 0, .int 0, .int 0, .ref H_23.size, .int 0, .int 0, .int 0, .ref H_31.size, .ref H_45.size, .int (-1), .int 0, .ref H_62.size, .ref H_72.size, .ref H_82.size, .ref H_92.size, .ref H_102.size, .ref H_112.size, .ref H_127.size, .ref H_142.size, .ref H_152.size, .int 0, .ref H_162.size, .int 0, .int 0, .int 0, .int 0, .int 0, .int 0, .int 0, .int 0, .int 0, .int 0, .ref H_172.size, .int 0, .int 0, .ref H_182.size, .int 0, .ref H_254.size, .int 0, .ref H_265.size, .ref H_276.size, .ref H_291.size, .int 0, .ref H_306.size, .ref H_317.size, .ref H_328.size, .ref H_339.size, .ref H_350.size, .null, .null, .null, .null, .null, .null, .null, .null, .null, .null, .int 0, .int 0, .int 0, .null, .null, .null, .int 0, .null, .null, .null])) H_361 := hraw_361
  have hkp_362 := hkp_355.put hr_361
  clear hh_359
  refine lv_aload_n hx hb dX14_init_283 rfl (lv_at hl 0 rfl) ?_
  refine lv_sipush (v := 240) hx hb dX14_init_284 (by decide) ?_
  clear hsz_352 htt_352
  have hsz_363 := hh_361.2.2.2.2.2.1
  have htt_363 := hh_361.2.2.2.2.2.2.1
  refine j7_newiK hx hb hK hh_361 hB (atype := .int) (ty := .int) (htw (.arrayClass .int) (jWr_3 _ (List.mem_of_getElem? (i := 20) rfl))) rfl rfl (fun _ h => h) hB101 1 rfl (by decide) (by decide) hbs (x := 240) (by decide) (by omega) (fun j => by first | trivial | decide | rfl | exact Or.inl rfl | (refine ⟨?_, ?_⟩ <;> decide)) (by rw [hRc]; omega) (by rw [hRs]; omega) dX14_init_287 (fun H_363 hfr_363 hh_363 => ?_)
  have hh_363 : jSt (dC, dI) B base G0 (va_up G_352 H_361.size (some (101, 240))) EX14_init s.heap ((((((((((((((((((((((((((((((((((((((0 + 1) + 1) + 1) + 1) + 1) + (1)) + 1) + (1)) + 1) + 1) + 1) + 1) + 1) + 1) + 1) + 1) + 1) + 1) + 1) + 1) + 1) + (6)) + 1) + (6)) + 1) + (6)) + 1) + 1) + 1) + (6)) + 1) + (6)) + 1) + 1) + 1) + 1) + 1) + 1) ((((((((((((((((((((((((((((((((((((((0 + 4000) + 20000) + 100000) + 3300) + 4) + (16)) + 4) + (16)) + 3100) + 3100) + 3100) + 3100) + 3100) + 3100) + 3100) + 3100) + 3100) + 3300) + 20) + 3) + 11) + (1700)) + 11) + (1700)) + 11) + (1700)) + 3100) + 1500) + 11) + (1700)) + 11) + (1700)) + 12) + 12) + 12) + 12) + 12) + 240) [(H_45.size, 0, 3, .int qc_52), (H_45.size, 0, 0, .ref xa_52), (H_31.size, 0, 3, .int qc_38), (H_31.size, 0, 0, .ref xa_38)] [(H_127.size, 123, 3100, ca 1, (fun _ => 0)), (H_112.size, 122, 3100, ca 1, (fun _ => 0))] [(jFz9, jDZ dC dI G_352), ([(201, 0)], jQc dC dI (ca 4) H_182.size 3 (va_up (va_up (va_up (fun _ => none) 0 (some H_184.size)) 1 (some H_205.size)) 2 (some H_224.size)))] H_363 locs_361 := hh_363
  have hZ_363 : jN14 G_352 (va_up G_352 H_361.size (some (101, 240))) := jN14.new (by decide)
  have hN_363 : (jNk [1, 2, 3, 4, 5, 6, 7, 8, 9, 10, 11, 12, 13]) G_352 (va_up G_352 H_361.size (some (101, 240))) := jNk.new (by decide)
  have hgn_363 : (va_up G_352 H_361.size (some (101, 240))) H_361.size = some (101, 240) := jUp_self
  have hle_363 : jLe G_352 (va_up G_352 H_361.size (some (101, 240))) := jLe.new hh_361.2.1.fresh
  have hke_363 : jKe G_352 (va_up G_352 H_361.size (some (101, 240))) H_361 H_363 := jKe.new hfr_363
  have hsy_363 : s.heap.size ≤ H_361.size := hh_361.1.1
  generalize (va_up G_352 H_361.size (some (101, 240))) = G_363 at hN_363 hgn_363 hle_363 hke_363 hh_363 hZ_363
  clear hh_361
  have hNn_363 : (jNk [1, 2, 3, 4, 5, 6, 7, 8, 9, 10, 11, 12, 13]) G0 G_363 := (hNn_352).tr hN_363
  have hg_364 := hle_363 _ _ hg_353
  have hg_365 := hle_363 _ _ hg_354
  have hkp_366 := hkp_362.tr hke_363
  have hraw_367n := hke_363.nr hraw_361.lt hraw_356n
  have hraw_367 := hraw_361.kept (hke_363.1 _ hraw_361.lt)
  have hz14_363 : jN14 G0 G_363 := (hz14_352).tr hZ_363
  have hd_368 := jDZ.grow (hh_363.iv 0 rfl) hle_363 hZ_363
  have hh_369 := hh_363.sub (L1 := [(H_45.size, 0, 3, .int qc_52), (H_45.size, 0, 0, .ref xa_52), (H_31.size, 0, 3, .int qc_38), (H_31.size, 0, 0, .ref xa_38)]) [0, 1, 2, 3] rfl (M1 := [(H_127.size, 123, 3100, ca 1, (fun _ => 0)), (H_112.size, 122, 3100, ca 1, (fun _ => 0))]) [0, 1] rfl (I1 := [([(201, 0)], jQc dC dI (ca 4) H_182.size 3 (va_up (va_up (va_up (fun _ => none) 0 (some H_184.size)) 1 (some H_205.size)) 2 (some H_224.size)))]) [1] rfl
  clear hh_363
  have hh_370 := hh_369.addI (jDZ.ie hd_368)
  clear hh_369
  refine j7_putRF hx hb hown hK hh_370 hB hAp hraw_367 hraw_367n hbr0 (C := RX14) (T := TX14) (N := 74) rfl (i := 54) (by decide) (Nat.le_of_ble_eq_true rfl) hly_16_54 rfl hin2 rfl hlk_106 (ty := (.array .int)) (v := .ref H_361.size) (by decide +kernel) rfl rfl dX14_init_289 (fun H_372 locs_372 hraw_372 hr_372 hh_372 => ?_)
  have hraw_372 : va_at (dC, dI) vwCl (r0, .inr (16, [.ref s.heap.size, .int 0, .ref H_7.size, .int 0, .int 0, .ref H_15.size, .int 0, .int 0, .int 0, .ref H_23.size, .int 0, .int 0, .int 0, .ref H_31.size, .ref H_45.size, .int (-1), .int 0, .ref H_62.size, .ref H_72.size, .ref H_82.size, .ref H_92.size, .ref H_102.size, .ref H_112.size, .ref H_127.size, .ref H_142.size, .ref H_152.size, .int 0, .ref H_162.size, .int 0, .int 0, .int 0, .int 0, .int 0, .int 0, .int 0, .int 0, .int 0, .int 0, .ref H_172.size, .int 0, .int 0, .ref H_182.size, .int 0, .ref H_254.size, .int 0, .ref H_265.size, .ref H_276.size, .ref H_291.size, .int 0, .ref H_306.size, .ref H_317.size, .ref H_328.size, .ref H_339.size, .ref H_350.size, .ref H_361.size, .null, .null, .null, .null, .null, .null, .null, .null, .null, .int 0, .int 0, .int 0, .null, .null, .null, .int 0, .null, .null, .null])) H_372 := hraw_372
  have hkp_373 := hkp_366.put hr_372
  clear hh_370
  refine lv_aload_n hx hb dX14_init_292 rfl (lv_at hl 0 rfl) ?_
  refine lv_bipush (v := 12) hx hb dX14_init_293 (by decide) ?_
  clear hsz_363 htt_363
  have hsz_374 := hh_372.2.2.2.2.2.1
  have htt_374 := hh_372.2.2.2.2.2.2.1
  refine j7_newiK hx hb hK hh_372 hB (atype := .int) (ty := .int) (htw (.arrayClass .int) (jWr_3 _ (List.mem_of_getElem? (i := 20) rfl))) rfl rfl (fun _ h => h) hB203 1 rfl (by decide) (by decide) hbs (x := 12) (by decide) (by omega) (fun j => by first | trivial | decide | rfl | exact Or.inl rfl | (refine ⟨?_, ?_⟩ <;> decide)) (by rw [hRc]; omega) (by rw [hRs]; omega) dX14_init_295 (fun H_374 hfr_374 hh_374 => ?_)
  have hh_374 : jSt (dC, dI) B base G0 (va_up G_363 H_372.size (some (203, 12))) EX14_init s.heap (((((((((((((((((((((((((((((((((((((((0 + 1) + 1) + 1) + 1) + 1) + (1)) + 1) + (1)) + 1) + 1) + 1) + 1) + 1) + 1) + 1) + 1) + 1) + 1) + 1) + 1) + 1) + (6)) + 1) + (6)) + 1) + (6)) + 1) + 1) + 1) + (6)) + 1) + (6)) + 1) + 1) + 1) + 1) + 1) + 1) + 1) (((((((((((((((((((((((((((((((((((((((0 + 4000) + 20000) + 100000) + 3300) + 4) + (16)) + 4) + (16)) + 3100) + 3100) + 3100) + 3100) + 3100) + 3100) + 3100) + 3100) + 3100) + 3300) + 20) + 3) + 11) + (1700)) + 11) + (1700)) + 11) + (1700)) + 3100) + 1500) + 11) + (1700)) + 11) + (1700)) + 12) + 12) + 12) + 12) + 12) + 240) + 12) [(H_45.size, 0, 3, .int qc_52), (H_45.size, 0, 0, .ref xa_52), (H_31.size, 0, 3, .int qc_38), (H_31.size, 0, 0, .ref xa_38)] [(H_127.size, 123, 3100, ca 1, (fun _ => 0)), (H_112.size, 122, 3100, ca 1, (fun _ => 0))] [(jFz9, jDZ dC dI G_363), ([(201, 0)], jQc dC dI (ca 4) H_182.size 3 (va_up (va_up (va_up (fun _ => none) 0 (some H_184.size)) 1 (some H_205.size)) 2 (some H_224.size)))] H_374 locs_372 := hh_374
  have hZ_374 : jN14 G_363 (va_up G_363 H_372.size (some (203, 12))) := jN14.new (by decide)
  have hN_374 : (jNk [1, 2, 3, 4, 5, 6, 7, 8, 9, 10, 11, 12, 13]) G_363 (va_up G_363 H_372.size (some (203, 12))) := jNk.new (by decide)
  have hgn_374 : (va_up G_363 H_372.size (some (203, 12))) H_372.size = some (203, 12) := jUp_self
  have hle_374 : jLe G_363 (va_up G_363 H_372.size (some (203, 12))) := jLe.new hh_372.2.1.fresh
  have hke_374 : jKe G_363 (va_up G_363 H_372.size (some (203, 12))) H_372 H_374 := jKe.new hfr_374
  have hsy_374 : s.heap.size ≤ H_372.size := hh_372.1.1
  generalize (va_up G_363 H_372.size (some (203, 12))) = G_374 at hN_374 hgn_374 hle_374 hke_374 hh_374 hZ_374
  clear hh_372
  have hNn_374 : (jNk [1, 2, 3, 4, 5, 6, 7, 8, 9, 10, 11, 12, 13]) G0 G_374 := (hNn_363).tr hN_374
  have hg_375 := hle_374 _ _ hg_364
  have hg_376 := hle_374 _ _ hg_365
  have hkp_377 := hkp_373.tr hke_374
  have hraw_378n := hke_374.nr hraw_372.lt hraw_367n
  have hraw_378 := hraw_372.kept (hke_374.1 _ hraw_372.lt)
  have hz14_374 : jN14 G0 G_374 := (hz14_363).tr hZ_374
  have hd_379 := jDZ.grow (hh_374.iv 0 rfl) hle_374 hZ_374
  have hh_380 := hh_374.sub (L1 := [(H_45.size, 0, 3, .int qc_52), (H_45.size, 0, 0, .ref xa_52), (H_31.size, 0, 3, .int qc_38), (H_31.size, 0, 0, .ref xa_38)]) [0, 1, 2, 3] rfl (M1 := [(H_127.size, 123, 3100, ca 1, (fun _ => 0)), (H_112.size, 122, 3100, ca 1, (fun _ => 0))]) [0, 1] rfl (I1 := [([(201, 0)], jQc dC dI (ca 4) H_182.size 3 (va_up (va_up (va_up (fun _ => none) 0 (some H_184.size)) 1 (some H_205.size)) 2 (some H_224.size)))]) [1] rfl
  clear hh_374
  have hh_381 := hh_380.addI (jDZ.ie hd_379)
  clear hh_380
  refine j7_putRF hx hb hown hK hh_381 hB hAp hraw_378 hraw_378n hbr0 (C := RX14) (T := TX14) (N := 74) rfl (i := 55) (by decide) (Nat.le_of_ble_eq_true rfl) hly_16_55 rfl hin2 rfl hlk_109 (ty := (.array .int)) (v := .ref H_372.size) (by decide +kernel) rfl rfl dX14_init_297 (fun H_383 locs_383 hraw_383 hr_383 hh_383 => ?_)
  have hraw_383 : va_at (dC, dI) vwCl (r0, .inr (16, [.ref s.heap.size, .int 0, .ref H_7.size, .int 0, .int 0, .ref H_15.size, .int 0, .int 0, .int 0, .ref H_23.size, .int 0, .int 0, .int 0, .ref H_31.size, .ref H_45.size, .int (-1), .int 0, .ref H_62.size, .ref H_72.size, .ref H_82.size, .ref H_92.size, .ref H_102.size, .ref H_112.size, .ref H_127.size, .ref H_142.size, .ref H_152.size, .int 0, .ref H_162.size, .int 0, .int 0, .int 0, .int 0, .int 0, .int 0, .int 0, .int 0, .int 0, .int 0, .ref H_172.size, .int 0, .int 0, .ref H_182.size, .int 0, .ref H_254.size, .int 0, .ref H_265.size, .ref H_276.size, .ref H_291.size, .int 0, .ref H_306.size, .ref H_317.size, .ref H_328.size, .ref H_339.size, .ref H_350.size, .ref H_361.size, .ref H_372.size, .null, .null, .null, .null, .null, .null, .null, .null, .int 0, .int 0, .int 0, .null, .null, .null, .int 0, .null, .null, .null])) H_383 := hraw_383
  have hkp_384 := hkp_377.put hr_383
  clear hh_381
  refine lv_aload_n hx hb dX14_init_300 rfl (lv_at hl 0 rfl) ?_
  refine lv_ldc hx hb hown hcs_112 dX14_init_301 ?_
  clear hsz_374 htt_374
  have hsz_385 := hh_383.2.2.2.2.2.1
  have htt_385 := hh_383.2.2.2.2.2.2.1
  refine j7_newiK hx hb hK hh_383 hB (atype := .int) (ty := .int) (htw (.arrayClass .int) (jWr_3 _ (List.mem_of_getElem? (i := 20) rfl))) rfl rfl (fun _ h => h) hB101 1 rfl (by decide) (by decide) hbs (x := 37200) (by decide) (by omega) (fun j => by first | trivial | decide | rfl | exact Or.inl rfl | (refine ⟨?_, ?_⟩ <;> decide)) (by rw [hRc]; omega) (by rw [hRs]; omega) dX14_init_303 (fun H_385 hfr_385 hh_385 => ?_)
  have hh_385 : jSt (dC, dI) B base G0 (va_up G_374 H_383.size (some (101, 37200))) EX14_init s.heap ((((((((((((((((((((((((((((((((((((((((0 + 1) + 1) + 1) + 1) + 1) + (1)) + 1) + (1)) + 1) + 1) + 1) + 1) + 1) + 1) + 1) + 1) + 1) + 1) + 1) + 1) + 1) + (6)) + 1) + (6)) + 1) + (6)) + 1) + 1) + 1) + (6)) + 1) + (6)) + 1) + 1) + 1) + 1) + 1) + 1) + 1) + 1) ((((((((((((((((((((((((((((((((((((((((0 + 4000) + 20000) + 100000) + 3300) + 4) + (16)) + 4) + (16)) + 3100) + 3100) + 3100) + 3100) + 3100) + 3100) + 3100) + 3100) + 3100) + 3300) + 20) + 3) + 11) + (1700)) + 11) + (1700)) + 11) + (1700)) + 3100) + 1500) + 11) + (1700)) + 11) + (1700)) + 12) + 12) + 12) + 12) + 12) + 240) + 12) + 37200) [(H_45.size, 0, 3, .int qc_52), (H_45.size, 0, 0, .ref xa_52), (H_31.size, 0, 3, .int qc_38), (H_31.size, 0, 0, .ref xa_38)] [(H_127.size, 123, 3100, ca 1, (fun _ => 0)), (H_112.size, 122, 3100, ca 1, (fun _ => 0))] [(jFz9, jDZ dC dI G_374), ([(201, 0)], jQc dC dI (ca 4) H_182.size 3 (va_up (va_up (va_up (fun _ => none) 0 (some H_184.size)) 1 (some H_205.size)) 2 (some H_224.size)))] H_385 locs_383 := hh_385
  have hZ_385 : jN14 G_374 (va_up G_374 H_383.size (some (101, 37200))) := jN14.new (by decide)
  have hN_385 : (jNk [1, 2, 3, 4, 5, 6, 7, 8, 9, 10, 11, 12, 13]) G_374 (va_up G_374 H_383.size (some (101, 37200))) := jNk.new (by decide)
  have hgn_385 : (va_up G_374 H_383.size (some (101, 37200))) H_383.size = some (101, 37200) := jUp_self
  have hle_385 : jLe G_374 (va_up G_374 H_383.size (some (101, 37200))) := jLe.new hh_383.2.1.fresh
  have hke_385 : jKe G_374 (va_up G_374 H_383.size (some (101, 37200))) H_383 H_385 := jKe.new hfr_385
  have hsy_385 : s.heap.size ≤ H_383.size := hh_383.1.1
  generalize (va_up G_374 H_383.size (some (101, 37200))) = G_385 at hN_385 hgn_385 hle_385 hke_385 hh_385 hZ_385
  clear hh_383
  have hNn_385 : (jNk [1, 2, 3, 4, 5, 6, 7, 8, 9, 10, 11, 12, 13]) G0 G_385 := (hNn_374).tr hN_385
  have hg_386 := hle_385 _ _ hg_375
  have hg_387 := hle_385 _ _ hg_376
  have hkp_388 := hkp_384.tr hke_385
  have hraw_389n := hke_385.nr hraw_383.lt hraw_378n
  have hraw_389 := hraw_383.kept (hke_385.1 _ hraw_383.lt)
  have hz14_385 : jN14 G0 G_385 := (hz14_374).tr hZ_385
  have hd_390 := jDZ.grow (hh_385.iv 0 rfl) hle_385 hZ_385
  have hh_391 := hh_385.sub (L1 := [(H_45.size, 0, 3, .int qc_52), (H_45.size, 0, 0, .ref xa_52), (H_31.size, 0, 3, .int qc_38), (H_31.size, 0, 0, .ref xa_38)]) [0, 1, 2, 3] rfl (M1 := [(H_127.size, 123, 3100, ca 1, (fun _ => 0)), (H_112.size, 122, 3100, ca 1, (fun _ => 0))]) [0, 1] rfl (I1 := [([(201, 0)], jQc dC dI (ca 4) H_182.size 3 (va_up (va_up (va_up (fun _ => none) 0 (some H_184.size)) 1 (some H_205.size)) 2 (some H_224.size)))]) [1] rfl
  clear hh_385
  have hh_392 := hh_391.addI (jDZ.ie hd_390)
  clear hh_391
  refine j7_putRF hx hb hown hK hh_392 hB hAp hraw_389 hraw_389n hbr0 (C := RX14) (T := TX14) (N := 74) rfl (i := 56) (by decide) (Nat.le_of_ble_eq_true rfl) hly_16_56 rfl hin2 rfl hlk_113 (ty := (.array .int)) (v := .ref H_383.size) (by decide +kernel) rfl rfl dX14_init_305 (fun H_394 locs_394 hraw_394 hr_394 hh_394 => ?_)
  have hraw_394 : va_at (dC, dI) vwCl (r0, .inr (16, [.ref s.heap.size, .int 0, .ref H_7.size, .int 0, .int 0, .ref H_15.size, .int 0, .int 0, .int 0, .ref H_23.size, .int 0, .int 0, .int 0, .ref H_31.size, .ref H_45.size, .int (-1), .int 0, .ref H_62.size, .ref H_72.size, .ref H_82.size, .ref H_92.size, .ref H_102.size, .ref H_112.size, .ref H_127.size, .ref H_142.size, .ref H_152.size, .int 0, .ref H_162.size, .int 0, .int 0, .int 0, .int 0, .int 0, .int 0, .int 0, .int 0, .int 0, .int 0, .ref H_172.size, .int 0, .int 0, .ref H_182.size, .int 0, .ref H_254.size, .int 0, .ref H_265.size, .ref H_276.size, .ref H_291.size, .int 0, .ref H_306.size, .ref H_317.size, .ref H_328.size, .ref H_339.size, .ref H_350.size, .ref H_361.size, .ref H_372.size, .ref H_383.size, .null, .null, .null, .null, .null, .null, .null, .int 0, .int 0, .int 0, .null, .null, .null, .int 0, .null, .null, .null])) H_394 := hraw_394
  have hkp_395 := hkp_388.put hr_394
  clear hh_392
  refine lv_aload_n hx hb dX14_init_308 rfl (lv_at hl 0 rfl) ?_
  refine lv_bipush (v := 12) hx hb dX14_init_309 (by decide) ?_
  clear hsz_385 htt_385
  have hsz_396 := hh_394.2.2.2.2.2.1
  have htt_396 := hh_394.2.2.2.2.2.2.1
  refine j7_newiK hx hb hK hh_394 hB (atype := .int) (ty := .int) (htw (.arrayClass .int) (jWr_3 _ (List.mem_of_getElem? (i := 20) rfl))) rfl rfl (fun _ h => h) hB204 1 rfl (by decide) (by decide) hbs (x := 12) (by decide) (by omega) (fun j => by first | trivial | decide | rfl | exact Or.inl rfl | (refine ⟨?_, ?_⟩ <;> decide)) (by rw [hRc]; omega) (by rw [hRs]; omega) dX14_init_311 (fun H_396 hfr_396 hh_396 => ?_)
  have hh_396 : jSt (dC, dI) B base G0 (va_up G_385 H_394.size (some (204, 12))) EX14_init s.heap (((((((((((((((((((((((((((((((((((((((((0 + 1) + 1) + 1) + 1) + 1) + (1)) + 1) + (1)) + 1) + 1) + 1) + 1) + 1) + 1) + 1) + 1) + 1) + 1) + 1) + 1) + 1) + (6)) + 1) + (6)) + 1) + (6)) + 1) + 1) + 1) + (6)) + 1) + (6)) + 1) + 1) + 1) + 1) + 1) + 1) + 1) + 1) + 1) (((((((((((((((((((((((((((((((((((((((((0 + 4000) + 20000) + 100000) + 3300) + 4) + (16)) + 4) + (16)) + 3100) + 3100) + 3100) + 3100) + 3100) + 3100) + 3100) + 3100) + 3100) + 3300) + 20) + 3) + 11) + (1700)) + 11) + (1700)) + 11) + (1700)) + 3100) + 1500) + 11) + (1700)) + 11) + (1700)) + 12) + 12) + 12) + 12) + 12) + 240) + 12) + 37200) + 12) [(H_45.size, 0, 3, .int qc_52), (H_45.size, 0, 0, .ref xa_52), (H_31.size, 0, 3, .int qc_38), (H_31.size, 0, 0, .ref xa_38)] [(H_127.size, 123, 3100, ca 1, (fun _ => 0)), (H_112.size, 122, 3100, ca 1, (fun _ => 0))] [(jFz9, jDZ dC dI G_385), ([(201, 0)], jQc dC dI (ca 4) H_182.size 3 (va_up (va_up (va_up (fun _ => none) 0 (some H_184.size)) 1 (some H_205.size)) 2 (some H_224.size)))] H_396 locs_394 := hh_396
  have hZ_396 : jN14 G_385 (va_up G_385 H_394.size (some (204, 12))) := jN14.new (by decide)
  have hN_396 : (jNk [1, 2, 3, 4, 5, 6, 7, 8, 9, 10, 11, 12, 13]) G_385 (va_up G_385 H_394.size (some (204, 12))) := jNk.new (by decide)
  have hgn_396 : (va_up G_385 H_394.size (some (204, 12))) H_394.size = some (204, 12) := jUp_self
  have hle_396 : jLe G_385 (va_up G_385 H_394.size (some (204, 12))) := jLe.new hh_394.2.1.fresh
  have hke_396 : jKe G_385 (va_up G_385 H_394.size (some (204, 12))) H_394 H_396 := jKe.new hfr_396
  have hsy_396 : s.heap.size ≤ H_394.size := hh_394.1.1
  generalize (va_up G_385 H_394.size (some (204, 12))) = G_396 at hN_396 hgn_396 hle_396 hke_396 hh_396 hZ_396
  clear hh_394
  have hNn_396 : (jNk [1, 2, 3, 4, 5, 6, 7, 8, 9, 10, 11, 12, 13]) G0 G_396 := (hNn_385).tr hN_396
  have hg_397 := hle_396 _ _ hg_386
  have hg_398 := hle_396 _ _ hg_387
  have hkp_399 := hkp_395.tr hke_396
  have hraw_400n := hke_396.nr hraw_394.lt hraw_389n
  have hraw_400 := hraw_394.kept (hke_396.1 _ hraw_394.lt)
  have hz14_396 : jN14 G0 G_396 := (hz14_385).tr hZ_396
  have hd_401 := jDZ.grow (hh_396.iv 0 rfl) hle_396 hZ_396
  have hh_402 := hh_396.sub (L1 := [(H_45.size, 0, 3, .int qc_52), (H_45.size, 0, 0, .ref xa_52), (H_31.size, 0, 3, .int qc_38), (H_31.size, 0, 0, .ref xa_38)]) [0, 1, 2, 3] rfl (M1 := [(H_127.size, 123, 3100, ca 1, (fun _ => 0)), (H_112.size, 122, 3100, ca 1, (fun _ => 0))]) [0, 1] rfl (I1 := [([(201, 0)], jQc dC dI (ca 4) H_182.size 3 (va_up (va_up (va_up (fun _ => none) 0 (some H_184.size)) 1 (some H_205.size)) 2 (some H_224.size)))]) [1] rfl
  clear hh_396
  have hh_403 := hh_402.addI (jDZ.ie hd_401)
  clear hh_402
  refine j7_putRF hx hb hown hK hh_403 hB hAp hraw_400 hraw_400n hbr0 (C := RX14) (T := TX14) (N := 74) rfl (i := 57) (by decide) (Nat.le_of_ble_eq_true rfl) hly_16_57 rfl hin2 rfl hlk_116 (ty := (.array .int)) (v := .ref H_394.size) (by decide +kernel) rfl rfl dX14_init_313 (fun H_405 locs_405 hraw_405 hr_405 hh_405 => ?_)
  have hraw_405 : va_at (dC, dI) vwCl (r0, .inr (16, [.ref s.heap.size, .int 0, .ref H_7.size, .int 0, .int 0, .ref H_15.size, .int 0, .int 0, .int 0, .ref H_23.size, .int 0, .int 0, .int 0, .ref H_31.size, .ref H_45.size, .int (-1), .int 0, .ref H_62.size, .ref H_72.size, .ref H_82.size, .ref H_92.size, .ref H_102.size, .ref H_112.size, .ref H_127.size, .ref H_142.size, .ref H_152.size, .int 0, .ref H_162.size, .int 0, .int 0, .int 0, .int 0, .int 0, .int 0, .int 0, .int 0, .int 0, .int 0, .ref H_172.size, .int 0, .int 0, .ref H_182.size, .int 0, .ref H_254.size, .int 0, .ref H_265.size, .ref H_276.size, .ref H_291.size, .int 0, .ref H_306.size, .ref H_317.size, .ref H_328.size, .ref H_339.size, .ref H_350.size, .ref H_361.size, .ref H_372.size, .ref H_383.size, .ref H_394.size, .null, .null, .null, .null, .null, .null, .int 0, .int 0, .int 0, .null, .null, .null, .int 0, .null, .null, .null])) H_405 := hraw_405
  have hkp_406 := hkp_399.put hr_405
  clear hh_403
  refine lv_aload_n hx hb dX14_init_316 rfl (lv_at hl 0 rfl) ?_
  clear hsz_396 htt_396
  have hsz_407 := hh_405.2.2.2.2.2.1
  have htt_407 := hh_405.2.2.2.2.2.2.1
  refine j7_newo (k := 15) (C := RX13) (T := TX13) (N := 50) (fs := [.null, .null, .null, .null, .null, .int 0, .null, .int 0, .null, .null, .int 0, .int 0, .null, .null, .null, .int 0, .null, .null, .int 0, .int 0, .int 0, .int 0, .null, .null, .null, .null, .null, .null, .null, .null, .int 0, .int 0, .int 0, .int 0, .int 0, .null, .int 0, .null, .int 0, .int 0, .int 0, .int 0, .int 0, .null, .null, .null, .int 0, .null, .null, .int 0]) hx hb htw jWc_wsX130 (fun k => ([(.array .int), (.array .int), (.array .int), (.array .int), (.array .int), .int, (.array .int), .int, (.array .int), (.array .int), .int, .int, (.array .int), (.array .boolean), (.array .int), .int, (.array .int), (.array .int), .boolean, .int, .int, .int, (.array .int), (.array .int), (.array .int), (.array .int), (.array .int), (.array .int), (.array .int), (.array .int), .int, .int, .int, .boolean, .int, (.array .int), .int, (.array .int), .int, .int, .int, .int, .int, (.array .int), (.array .int), (.array .int), .int, (.array .int), (.array .int), .int] : List FieldType).getD k .int) (by decide +kernel) hown (htw (.classLink RX14 119 RX13) (jWr_12 _ (List.mem_of_getElem? (i := 10) rfl))) (htw (.instantiable RX13 50) (jWr_12 _ (List.mem_of_getElem? (i := 11) rfl))) (htw (.initialized RX13) (jWr_12 _ (List.mem_of_getElem? (i := 12) rfl))) hK rfl (fun j hj => by rcases (by omega : j = 0 ∨ j = 1 ∨ j = 2 ∨ j = 3 ∨ j = 4 ∨ j = 5 ∨ j = 6 ∨ j = 7 ∨ j = 8 ∨ j = 9 ∨ j = 10 ∨ j = 11 ∨ j = 12 ∨ j = 13 ∨ j = 14 ∨ j = 15 ∨ j = 16 ∨ j = 17 ∨ j = 18 ∨ j = 19 ∨ j = 20 ∨ j = 21 ∨ j = 22 ∨ j = 23 ∨ j = 24 ∨ j = 25 ∨ j = 26 ∨ j = 27 ∨ j = 28 ∨ j = 29 ∨ j = 30 ∨ j = 31 ∨ j = 32 ∨ j = 33 ∨ j = 34 ∨ j = 35 ∨ j = 36 ∨ j = 37 ∨ j = 38 ∨ j = 39 ∨ j = 40 ∨ j = 41 ∨ j = 42 ∨ j = 43 ∨ j = 44 ∨ j = 45 ∨ j = 46 ∨ j = 47 ∨ j = 48 ∨ j = 49) with rfl | rfl | rfl | rfl | rfl | rfl | rfl | rfl | rfl | rfl | rfl | rfl | rfl | rfl | rfl | rfl | rfl | rfl | rfl | rfl | rfl | rfl | rfl | rfl | rfl | rfl | rfl | rfl | rfl | rfl | rfl | rfl | rfl | rfl | rfl | rfl | rfl | rfl | rfl | rfl | rfl | rfl | rfl | rfl | rfl | rfl | rfl | rfl | rfl | rfl <;> rfl) hh_405 hB (by rw [hRc]; omega) (by rw [hRs]; omega) dX14_init_317 (fun H_407 hraw_407 hfr_407 hnr_407 hh_407 => ?_)
  have hlt_408 := hraw_405.lt
  have hke_407 : jKe G_396 G_396 H_405 H_407 := jKe.raw hfr_407
  have hbr_407 : base ≤ H_405.size := Nat.le_trans hbs hh_405.1.1
  have hsy_407 : s.heap.size ≤ H_405.size := hh_405.1.1
  clear hh_405
  have hkp_409 := hkp_406.tr hke_407
  have hraw_410n := hke_407.nr hraw_405.lt hraw_400n
  have hraw_410 := hraw_405.kept (hke_407.1 _ hraw_405.lt)
  have hne_411 : r0 ≠ H_405.size := Nat.ne_of_lt hlt_408
  refine lv_dup hx hb dX14_init_320 rfl ?_
  clear hsz_407 htt_407
  have hsz_412 := hh_407.2.2.2.2.2.1
  have htt_412 := hh_407.2.2.2.2.2.2.1
  refine W.room (fun hrc_412 hrs_412 => ?_)
  refine va_callv (A0 := jA base) (H0 := s.heap) (va_runIN (As := []) (rest := [.ref H_405.size, .ref r0]) ⟨hx, hb, hml, hown, hts⟩ (uX13_init l dC dI ca base B hB hAp hB15 hB101 hB103 hB150 hB151 hB152 hB153 hB154 hB155 hB156 hB157 hB158 hB159 hB160 hB161 hB162 hB163 hB164 hB165 hB166 hB167 hB168 hB169 G_396 H_407 H_405.size LC LS) ⟨va_cnB 0 hts (jgW (jWr_14 _ (List.mem_of_getElem? (i := 6) rfl))) rfl rfl rfl (hG.2.2.1 RX14 121 yX13_init "ProofServerModel" (List.mem_of_getElem? (i := 1774) (by decide +kernel))) (htw (.initialized RX13) (jWr_12 _ (List.mem_of_getElem? (i := 12) rfl))) (by decide +kernel) ⟨by rw [← hR]; exact Nat.le_of_ble_eq_true rfl, by rw [← hR]; exact Nat.le_of_ble_eq_true rfl⟩, rfl, htw (.instanceMethod yX13_init) (jWr_14 _ (List.mem_of_getElem? (i := 5) rfl))⟩ ⟨fun a U g mk q => by obtain ⟨q0, q1, q2, qK, q10, q11, q12, q13, q14⟩ := q; exact ⟨q0, q1, q2, jG.calling g mk a qK, q10, q11, q12, q13, q14⟩, fun U hU hW => ⟨rfl, hU, hh_407.2.1, hG.step hW hU hh_407.1, hraw_407, hnr_407, hbr_407, jP.nil, (by omega), (by omega), trivial⟩⟩ rfl rfl hl.1 rfl (lv_room (Nat.le_of_ble_eq_true rfl)) dX14_init_321 ⟨by rw [hRc]; omega, by rw [hRs]; omega⟩) hh_407.1 (fun q _ h => h) (fun q h => h) (fun u_412 t_412 H_412 locs_412 ht_412 hvm_412 hr_413 hb_412 hz_412 hk_412 hS_412 => ?_)
  rw [ht_412] at hb_412
  obtain ⟨G_412, rfl⟩ : ∃ z, z = u_412 := ⟨_, rfl⟩
  try simp only at hb_412
  obtain ⟨⟨hb_4121, hb_4122, hb_4123, hb_4124, hb_4125, hb_4126⟩, hN_412, hgc_412, hbX_412⟩ := hb_412
  have hZ_412 : jN14 G_396 G_412 := fun a h => hN_412 a 14 0 h rfl
  have hN_412 : (jNk [1, 2, 3, 4, 5, 6, 7, 8, 9, 10, 11, 12, 13]) G_396 G_412 := hN_412.sub (by decide)
  have hh_412 : jSt (dC, dI) B base G0 G_412 EX14_init s.heap (((((((((((((((((((((((((((((((((((((((((((0 + 1) + 1) + 1) + 1) + 1) + (1)) + 1) + (1)) + 1) + 1) + 1) + 1) + 1) + 1) + 1) + 1) + 1) + 1) + 1) + 1) + 1) + (6)) + 1) + (6)) + 1) + (6)) + 1) + 1) + 1) + (6)) + 1) + (6)) + 1) + 1) + 1) + 1) + 1) + 1) + 1) + 1) + 1) + 1) + (28)) (((((((((((((((((((((((((((((((((((((((((((0 + 4000) + 20000) + 100000) + 3300) + 4) + (16)) + 4) + (16)) + 3100) + 3100) + 3100) + 3100) + 3100) + 3100) + 3100) + 3100) + 3100) + 3300) + 20) + 3) + 11) + (1700)) + 11) + (1700)) + 11) + (1700)) + 3100) + 1500) + 11) + (1700)) + 11) + (1700)) + 12) + 12) + 12) + 12) + 12) + 240) + 12) + 37200) + 12) + 50) + (720031)) [(H_45.size, 0, 3, .int qc_52), (H_45.size, 0, 0, .ref xa_52), (H_31.size, 0, 3, .int qc_38), (H_31.size, 0, 0, .ref xa_38)] [(H_127.size, 123, 3100, ca 1, (fun _ => 0)), (H_112.size, 122, 3100, ca 1, (fun _ => 0))] [(jFz9, jDZ dC dI G_396), ([(201, 0)], jQc dC dI (ca 4) H_182.size 3 (va_up (va_up (va_up (fun _ => none) 0 (some H_184.size)) 1 (some H_205.size)) 2 (some H_224.size)))] H_412 locs_412 := (hh_407.callG hb_4121 hb_4122 hb_4123 hb_4124 hb_4125 hS_412 rfl (L1 := [(H_45.size, 0, 3, .int qc_52), (H_45.size, 0, 0, .ref xa_52), (H_31.size, 0, 3, .int qc_38), (H_31.size, 0, 0, .ref xa_38)]) [0, 1, 2, 3] rfl rfl (M1 := [(H_127.size, 123, 3100, ca 1, (fun _ => 0)), (H_112.size, 122, 3100, ca 1, (fun _ => 0))]) [0, 1] rfl rfl (I1 := [(jFz9, jDZ dC dI G_396), ([(201, 0)], jQc dC dI (ca 4) H_182.size 3 (va_up (va_up (va_up (fun _ => none) 0 (some H_184.size)) 1 (some H_205.size)) 2 (some H_224.size)))]) [0, 1] rfl rfl).more hb_4126
  have hNn_412 : (jNk [1, 2, 3, 4, 5, 6, 7, 8, 9, 10, 11, 12, 13]) G0 G_412 := (hNn_396).tr hN_412
  have hg_414 := hb_4122 _ _ hg_397
  have hg_415 := hb_4122 _ _ hg_398
  have hd_416 := jDZ.grow (hh_412.iv 0 rfl) hb_4122 hZ_412
  have hh_417 := hh_412.sub (L1 := [(H_45.size, 0, 3, .int qc_52), (H_45.size, 0, 0, .ref xa_52), (H_31.size, 0, 3, .int qc_38), (H_31.size, 0, 0, .ref xa_38)]) [0, 1, 2, 3] rfl (M1 := [(H_127.size, 123, 3100, ca 1, (fun _ => 0)), (H_112.size, 122, 3100, ca 1, (fun _ => 0))]) [0, 1] rfl (I1 := [([(201, 0)], jQc dC dI (ca 4) H_182.size 3 (va_up (va_up (va_up (fun _ => none) 0 (some H_184.size)) 1 (some H_205.size)) 2 (some H_224.size)))]) [1] rfl
  clear hh_412
  have hh_418 := hh_417.addI (jDZ.ie hd_416)
  clear hh_417
  try simp only at hr_413
  have hkp_420 := hkp_409.in hbX_412 hsy_407
  have hraw_421x := hbX_412.ke hraw_410.lt hne_411 hraw_410n
  have hraw_421 := hraw_410.kept hraw_421x.1
  refine j7_putRF hx hb hown hK hh_418 hB hAp hraw_421 hraw_421x.2 hbr0 (C := RX14) (T := TX14) (N := 74) rfl (i := 58) (by decide) (Nat.le_of_ble_eq_true rfl) hly_16_58 rfl hin2 rfl hlk_122 (ty := (.object "ProofServerModel$Kernel")) (v := .ref H_405.size) (by decide +kernel) rfl rfl dX14_init_324 (fun H_422 locs_422 hraw_422 hr_422 hh_422 => ?_)
  have hraw_422 : va_at (dC, dI) vwCl (r0, .inr (16, [.ref s.heap.size, .int 0, .ref H_7.size, .int 0, .int 0, .ref H_15.size, .int 0, .int 0, .int 0, .ref H_23.size, .int 0, .int 0, .int 0, .ref H_31.size, .ref H_45.size, .int (-1), .int 0, .ref H_62.size, .ref H_72.size, .ref H_82.size, .ref H_92.size, .ref H_102.size, .ref H_112.size, .ref H_127.size, .ref H_142.size, .ref H_152.size, .int 0, .ref H_162.size, .int 0, .int 0, .int 0, .int 0, .int 0, .int 0, .int 0, .int 0, .int 0, .int 0, .ref H_172.size, .int 0, .int 0, .ref H_182.size, .int 0, .ref H_254.size, .int 0, .ref H_265.size, .ref H_276.size, .ref H_291.size, .int 0, .ref H_306.size, .ref H_317.size, .ref H_328.size, .ref H_339.size, .ref H_350.size, .ref H_361.size, .ref H_372.size, .ref H_383.size, .ref H_394.size, .ref H_405.size, .null, .null, .null, .null, .null, .int 0, .int 0, .int 0, .null, .null, .null, .int 0, .null, .null, .null])) H_422 := hraw_422
  have hkp_423 := hkp_420.put hr_422
  clear hh_418
  refine lv_aload_n hx hb dX14_init_327 rfl (lv_at hl 0 rfl) ?_
  refine lv_sipush (v := 3100) hx hb dX14_init_328 (by decide) ?_
  clear hsz_412 htt_412 hrc_412 hrs_412
  have hsz_424 := hh_422.2.2.2.2.2.1
  have htt_424 := hh_422.2.2.2.2.2.2.1
  refine j7_newiK hx hb hK hh_422 hB (atype := .int) (ty := .int) (htw (.arrayClass .int) (jWr_3 _ (List.mem_of_getElem? (i := 20) rfl))) rfl rfl (fun _ h => h) hB101 1 rfl (by decide) (by decide) hbs (x := 3100) (by decide) (by omega) (fun j => by first | trivial | decide | rfl | exact Or.inl rfl | (refine ⟨?_, ?_⟩ <;> decide)) (by rw [hRc]; omega) (by rw [hRs]; omega) dX14_init_331 (fun H_424 hfr_424 hh_424 => ?_)
  have hh_424 : jSt (dC, dI) B base G0 (va_up G_412 H_422.size (some (101, 3100))) EX14_init s.heap ((((((((((((((((((((((((((((((((((((((((((((0 + 1) + 1) + 1) + 1) + 1) + (1)) + 1) + (1)) + 1) + 1) + 1) + 1) + 1) + 1) + 1) + 1) + 1) + 1) + 1) + 1) + 1) + (6)) + 1) + (6)) + 1) + (6)) + 1) + 1) + 1) + (6)) + 1) + (6)) + 1) + 1) + 1) + 1) + 1) + 1) + 1) + 1) + 1) + 1) + (28)) + 1) ((((((((((((((((((((((((((((((((((((((((((((0 + 4000) + 20000) + 100000) + 3300) + 4) + (16)) + 4) + (16)) + 3100) + 3100) + 3100) + 3100) + 3100) + 3100) + 3100) + 3100) + 3100) + 3300) + 20) + 3) + 11) + (1700)) + 11) + (1700)) + 11) + (1700)) + 3100) + 1500) + 11) + (1700)) + 11) + (1700)) + 12) + 12) + 12) + 12) + 12) + 240) + 12) + 37200) + 12) + 50) + (720031)) + 3100) [(H_45.size, 0, 3, .int qc_52), (H_45.size, 0, 0, .ref xa_52), (H_31.size, 0, 3, .int qc_38), (H_31.size, 0, 0, .ref xa_38)] [(H_127.size, 123, 3100, ca 1, (fun _ => 0)), (H_112.size, 122, 3100, ca 1, (fun _ => 0))] [(jFz9, jDZ dC dI G_412), ([(201, 0)], jQc dC dI (ca 4) H_182.size 3 (va_up (va_up (va_up (fun _ => none) 0 (some H_184.size)) 1 (some H_205.size)) 2 (some H_224.size)))] H_424 locs_422 := hh_424
  have hZ_424 : jN14 G_412 (va_up G_412 H_422.size (some (101, 3100))) := jN14.new (by decide)
  have hN_424 : (jNk [1, 2, 3, 4, 5, 6, 7, 8, 9, 10, 11, 12, 13]) G_412 (va_up G_412 H_422.size (some (101, 3100))) := jNk.new (by decide)
  have hgn_424 : (va_up G_412 H_422.size (some (101, 3100))) H_422.size = some (101, 3100) := jUp_self
  have hle_424 : jLe G_412 (va_up G_412 H_422.size (some (101, 3100))) := jLe.new hh_422.2.1.fresh
  have hke_424 : jKe G_412 (va_up G_412 H_422.size (some (101, 3100))) H_422 H_424 := jKe.new hfr_424
  have hsy_424 : s.heap.size ≤ H_422.size := hh_422.1.1
  generalize (va_up G_412 H_422.size (some (101, 3100))) = G_424 at hN_424 hgn_424 hle_424 hke_424 hh_424 hZ_424
  clear hh_422
  have hNn_424 : (jNk [1, 2, 3, 4, 5, 6, 7, 8, 9, 10, 11, 12, 13]) G0 G_424 := (hNn_412).tr hN_424
  have hg_425 := hle_424 _ _ hg_414
  have hg_426 := hle_424 _ _ hg_415
  have hkp_427 := hkp_423.tr hke_424
  have hraw_428n := hke_424.nr hraw_422.lt hraw_421x.2
  have hraw_428 := hraw_422.kept (hke_424.1 _ hraw_422.lt)
  have hz14_424 : jN14 G0 G_424 := (hz14_396).tr hZ_424
  have hd_429 := jDZ.grow (hh_424.iv 0 rfl) hle_424 hZ_424
  have hh_430 := hh_424.sub (L1 := [(H_45.size, 0, 3, .int qc_52), (H_45.size, 0, 0, .ref xa_52), (H_31.size, 0, 3, .int qc_38), (H_31.size, 0, 0, .ref xa_38)]) [0, 1, 2, 3] rfl (M1 := [(H_127.size, 123, 3100, ca 1, (fun _ => 0)), (H_112.size, 122, 3100, ca 1, (fun _ => 0))]) [0, 1] rfl (I1 := [([(201, 0)], jQc dC dI (ca 4) H_182.size 3 (va_up (va_up (va_up (fun _ => none) 0 (some H_184.size)) 1 (some H_205.size)) 2 (some H_224.size)))]) [1] rfl
  clear hh_424
  have hh_431 := hh_430.addI (jDZ.ie hd_429)
  clear hh_430
  refine j7_putRF hx hb hown hK hh_431 hB hAp hraw_428 hraw_428n hbr0 (C := RX14) (T := TX14) (N := 74) rfl (i := 59) (by decide) (Nat.le_of_ble_eq_true rfl) hly_16_59 rfl hin2 rfl hlk_126 (ty := (.array .int)) (v := .ref H_422.size) (by decide +kernel) rfl rfl dX14_init_333 (fun H_433 locs_433 hraw_433 hr_433 hh_433 => ?_)
  have hraw_433 : va_at (dC, dI) vwCl (r0, .inr (16, [.ref s.heap.size, .int 0, .ref H_7.size, .int 0, .int 0, .ref H_15.size, .int 0, .int 0, .int 0, .ref H_23.size, .int 0, .int 0, .int 0, .ref H_31.size, .ref H_45.size, .int (-1), .int 0, .ref H_62.size, .ref H_72.size, .ref H_82.size, .ref H_92.size, .ref H_102.size, .ref H_112.size, .ref H_127.size, .ref H_142.size, .ref H_152.size, .int 0, .ref H_162.size, .int 0, .int 0, .int 0, .int 0, .int 0, .int 0, .int 0, .int 0, .int 0, .int 0, .ref H_172.size, .int 0, .int 0, .ref H_182.size, .int 0, .ref H_254.size, .int 0, .ref H_265.size, .ref H_276.size, .ref H_291.size, .int 0, .ref H_306.size, .ref H_317.size, .ref H_328.size, .ref H_339.size, .ref H_350.size, .ref H_361.size, .ref H_372.size, .ref H_383.size, .ref H_394.size, .ref H_405.size, .ref H_422.size, .null, .null, .null, .null, .int 0, .int 0, .int 0, .null, .null, .null, .int 0, .null, .null, .null])) H_433 := hraw_433
  have hkp_434 := hkp_427.put hr_433
  clear hh_431
  refine lv_aload_n hx hb dX14_init_336 rfl (lv_at hl 0 rfl) ?_
  refine lv_iconst (v := 2) hx hb dX14_init_337 (by decide) ?_
  clear hsz_424 htt_424
  have hsz_435 := hh_433.2.2.2.2.2.1
  have htt_435 := hh_433.2.2.2.2.2.2.1
  have hsy_435 : s.heap.size ≤ H_433.size := hh_433.1.1
  refine j7_newqK hx hb hown (htw (.classLink RX14 71 RX12) (jWr_11 _ (List.mem_of_getElem? (i := 16) rfl))) hK6.1 hK2 hh_433 hB hB208 0 rfl (by decide) hbs (x := 2) (by decide) (by omega) (fun _ => Or.inl rfl) (by rw [hRc]; omega) (by rw [hRs]; omega) dX14_init_338 (fun H_435 hfr_435 hh_435 hqn_435 => ?_)
  have hh_435 : jSt (dC, dI) B base G0 (va_up G_424 H_433.size (some (208, 2))) EX14_init s.heap (((((((((((((((((((((((((((((((((((((((((((((0 + 1) + 1) + 1) + 1) + 1) + (1)) + 1) + (1)) + 1) + 1) + 1) + 1) + 1) + 1) + 1) + 1) + 1) + 1) + 1) + 1) + 1) + (6)) + 1) + (6)) + 1) + (6)) + 1) + 1) + 1) + (6)) + 1) + (6)) + 1) + 1) + 1) + 1) + 1) + 1) + 1) + 1) + 1) + 1) + (28)) + 1) + 1) (((((((((((((((((((((((((((((((((((((((((((((0 + 4000) + 20000) + 100000) + 3300) + 4) + (16)) + 4) + (16)) + 3100) + 3100) + 3100) + 3100) + 3100) + 3100) + 3100) + 3100) + 3100) + 3300) + 20) + 3) + 11) + (1700)) + 11) + (1700)) + 11) + (1700)) + 3100) + 1500) + 11) + (1700)) + 11) + (1700)) + 12) + 12) + 12) + 12) + 12) + 240) + 12) + 37200) + 12) + 50) + (720031)) + 3100) + 2) [(H_45.size, 0, 3, .int qc_52), (H_45.size, 0, 0, .ref xa_52), (H_31.size, 0, 3, .int qc_38), (H_31.size, 0, 0, .ref xa_38)] [(H_127.size, 123, 3100, ca 1, (fun _ => 0)), (H_112.size, 122, 3100, ca 1, (fun _ => 0))] [(jFz9, jDZ dC dI G_424), ([(201, 0)], jQc dC dI (ca 4) H_182.size 3 (va_up (va_up (va_up (fun _ => none) 0 (some H_184.size)) 1 (some H_205.size)) 2 (some H_224.size)))] H_435 locs_433 := hh_435
  have hZ_435 : jN14 G_424 (va_up G_424 H_433.size (some (208, 2))) := jN14.new (by decide)
  have hN_435 : (jNk [1, 2, 3, 4, 5, 6, 7, 8, 9, 10, 11, 12, 13]) G_424 (va_up G_424 H_433.size (some (208, 2))) := jNk.new (by decide)
  have hgn_435 : (va_up G_424 H_433.size (some (208, 2))) H_433.size = some (208, 2) := jUp_self
  have hle_435 : jLe G_424 (va_up G_424 H_433.size (some (208, 2))) := jLe.new hh_433.2.1.fresh
  have hke_435 : jKe G_424 (va_up G_424 H_433.size (some (208, 2))) H_433 H_435 := jKe.new hfr_435
  have hsy_435 : s.heap.size ≤ H_433.size := hh_433.1.1
  generalize (va_up G_424 H_433.size (some (208, 2))) = G_435 at hN_435 hgn_435 hle_435 hke_435 hh_435 hZ_435
  clear hh_433
  have hNn_435 : (jNk [1, 2, 3, 4, 5, 6, 7, 8, 9, 10, 11, 12, 13]) G0 G_435 := (hNn_424).tr hN_435
  have hg_436 := hle_435 _ _ hg_425
  have hg_437 := hle_435 _ _ hg_426
  have hkp_438 := hkp_434.tr hke_435
  have hraw_439n := hke_435.nr hraw_433.lt hraw_428n
  have hraw_439 := hraw_433.kept (hke_435.1 _ hraw_433.lt)
  have hz14_435 : jN14 G0 G_435 := (hz14_424).tr hZ_435
  have hd_440 := jDZ.grow (hh_435.iv 0 rfl) hle_435 hZ_435
  have hh_441 := hh_435.sub (L1 := [(H_45.size, 0, 3, .int qc_52), (H_45.size, 0, 0, .ref xa_52), (H_31.size, 0, 3, .int qc_38), (H_31.size, 0, 0, .ref xa_38)]) [0, 1, 2, 3] rfl (M1 := [(H_127.size, 123, 3100, ca 1, (fun _ => 0)), (H_112.size, 122, 3100, ca 1, (fun _ => 0))]) [0, 1] rfl (I1 := [([(201, 0)], jQc dC dI (ca 4) H_182.size 3 (va_up (va_up (va_up (fun _ => none) 0 (some H_184.size)) 1 (some H_205.size)) 2 (some H_224.size)))]) [1] rfl
  clear hh_435
  have hh_442 := hh_441.addI (jDZ.ie hd_440)
  clear hh_441
  have hh_444 := hh_442.addI (jQc.ie hqn_435 hgn_435 (by decide) (by decide))
  clear hh_442
  refine j7_putRF hx hb hown hK hh_444 hB hAp hraw_439 hraw_439n hbr0 (C := RX14) (T := TX14) (N := 74) rfl (i := 60) (by decide) (Nat.le_of_ble_eq_true rfl) hly_16_60 rfl hin2 rfl hlk_129 (ty := (.array (.object "ProofServerModel$Document"))) (v := .ref H_433.size) (by decide +kernel) rfl rfl dX14_init_341 (fun H_445 locs_445 hraw_445 hr_445 hh_445 => ?_)
  have hraw_445 : va_at (dC, dI) vwCl (r0, .inr (16, [.ref s.heap.size, .int 0, .ref H_7.size, .int 0, .int 0, .ref H_15.size, .int 0, .int 0, .int 0, .ref H_23.size, .int 0, .int 0, .int 0, .ref H_31.size, .ref H_45.size, .int (-1), .int 0, .ref H_62.size, .ref H_72.size, .ref H_82.size, .ref H_92.size, .ref H_102.size, .ref H_112.size, .ref H_127.size, .ref H_142.size, .ref H_152.size, .int 0, .ref H_162.size, .int 0, .int 0, .int 0, .int 0, .int 0, .int 0, .int 0, .int 0, .int 0, .int 0, .ref H_172.size, .int 0, .int 0, .ref H_182.size, .int 0, .ref H_254.size, .int 0, .ref H_265.size, .ref H_276.size, .ref H_291.size, .int 0, .ref H_306.size, .ref H_317.size, .ref H_328.size, .ref H_339.size, .ref H_350.size, .ref H_361.size, .ref H_372.size, .ref H_383.size, .ref H_394.size, .ref H_405.size, .ref H_422.size, .ref H_433.size, .null, .null, .null, .int 0, .int 0, .int 0, .null, .null, .null, .int 0, .null, .null, .null])) H_445 := hraw_445
  have hkp_446 := hkp_438.put hr_445
  clear hh_444
  refine lv_aload_n hx hb dX14_init_344 rfl (lv_at hl 0 rfl) ?_
  refine lv_iconst (v := 2) hx hb dX14_init_345 (by decide) ?_
  clear hsz_435 htt_435
  have hsz_447 := hh_445.2.2.2.2.2.1
  have htt_447 := hh_445.2.2.2.2.2.2.1
  refine j7_newiK hx hb hK hh_445 hB (atype := .int) (ty := .int) (htw (.arrayClass .int) (jWr_3 _ (List.mem_of_getElem? (i := 20) rfl))) rfl rfl (fun _ h => h) hB207 1 rfl (by decide) (by decide) hbs (x := 2) (by decide) (by omega) (fun j => by first | trivial | decide | rfl | exact Or.inl rfl | (refine ⟨?_, ?_⟩ <;> decide)) (by rw [hRc]; omega) (by rw [hRs]; omega) dX14_init_346 (fun H_447 hfr_447 hh_447 => ?_)
  have hh_447 : jSt (dC, dI) B base G0 (va_up G_435 H_445.size (some (207, 2))) EX14_init s.heap ((((((((((((((((((((((((((((((((((((((((((((((0 + 1) + 1) + 1) + 1) + 1) + (1)) + 1) + (1)) + 1) + 1) + 1) + 1) + 1) + 1) + 1) + 1) + 1) + 1) + 1) + 1) + 1) + (6)) + 1) + (6)) + 1) + (6)) + 1) + 1) + 1) + (6)) + 1) + (6)) + 1) + 1) + 1) + 1) + 1) + 1) + 1) + 1) + 1) + 1) + (28)) + 1) + 1) + 1) ((((((((((((((((((((((((((((((((((((((((((((((0 + 4000) + 20000) + 100000) + 3300) + 4) + (16)) + 4) + (16)) + 3100) + 3100) + 3100) + 3100) + 3100) + 3100) + 3100) + 3100) + 3100) + 3300) + 20) + 3) + 11) + (1700)) + 11) + (1700)) + 11) + (1700)) + 3100) + 1500) + 11) + (1700)) + 11) + (1700)) + 12) + 12) + 12) + 12) + 12) + 240) + 12) + 37200) + 12) + 50) + (720031)) + 3100) + 2) + 2) [(H_45.size, 0, 3, .int qc_52), (H_45.size, 0, 0, .ref xa_52), (H_31.size, 0, 3, .int qc_38), (H_31.size, 0, 0, .ref xa_38)] [(H_127.size, 123, 3100, ca 1, (fun _ => 0)), (H_112.size, 122, 3100, ca 1, (fun _ => 0))] [([(208, 0)], jQc dC dI (ca 4) H_433.size 2 (fun _ => none)), (jFz9, jDZ dC dI G_435), ([(201, 0)], jQc dC dI (ca 4) H_182.size 3 (va_up (va_up (va_up (fun _ => none) 0 (some H_184.size)) 1 (some H_205.size)) 2 (some H_224.size)))] H_447 locs_445 := hh_447
  have hZ_447 : jN14 G_435 (va_up G_435 H_445.size (some (207, 2))) := jN14.new (by decide)
  have hN_447 : (jNk [1, 2, 3, 4, 5, 6, 7, 8, 9, 10, 11, 12, 13]) G_435 (va_up G_435 H_445.size (some (207, 2))) := jNk.new (by decide)
  have hgn_447 : (va_up G_435 H_445.size (some (207, 2))) H_445.size = some (207, 2) := jUp_self
  have hle_447 : jLe G_435 (va_up G_435 H_445.size (some (207, 2))) := jLe.new hh_445.2.1.fresh
  have hke_447 : jKe G_435 (va_up G_435 H_445.size (some (207, 2))) H_445 H_447 := jKe.new hfr_447
  have hsy_447 : s.heap.size ≤ H_445.size := hh_445.1.1
  generalize (va_up G_435 H_445.size (some (207, 2))) = G_447 at hN_447 hgn_447 hle_447 hke_447 hh_447 hZ_447
  clear hh_445
  have hNn_447 : (jNk [1, 2, 3, 4, 5, 6, 7, 8, 9, 10, 11, 12, 13]) G0 G_447 := (hNn_435).tr hN_447
  have hg_448 := hle_447 _ _ hg_436
  have hg_449 := hle_447 _ _ hg_437
  have hkp_450 := hkp_446.tr hke_447
  have hraw_451n := hke_447.nr hraw_445.lt hraw_439n
  have hraw_451 := hraw_445.kept (hke_447.1 _ hraw_445.lt)
  have hz14_447 : jN14 G0 G_447 := (hz14_435).tr hZ_447
  have hd_453 := jDZ.grow (hh_447.iv 1 rfl) hle_447 hZ_447
  have hh_454 := hh_447.sub (L1 := [(H_45.size, 0, 3, .int qc_52), (H_45.size, 0, 0, .ref xa_52), (H_31.size, 0, 3, .int qc_38), (H_31.size, 0, 0, .ref xa_38)]) [0, 1, 2, 3] rfl (M1 := [(H_127.size, 123, 3100, ca 1, (fun _ => 0)), (H_112.size, 122, 3100, ca 1, (fun _ => 0))]) [0, 1] rfl (I1 := [([(208, 0)], jQc dC dI (ca 4) H_433.size 2 (fun _ => none)), ([(201, 0)], jQc dC dI (ca 4) H_182.size 3 (va_up (va_up (va_up (fun _ => none) 0 (some H_184.size)) 1 (some H_205.size)) 2 (some H_224.size)))]) [0, 2] rfl
  clear hh_447
  have hh_455 := hh_454.addI (jDZ.ie hd_453)
  clear hh_454
  refine j7_putRF hx hb hown hK hh_455 hB hAp hraw_451 hraw_451n hbr0 (C := RX14) (T := TX14) (N := 74) rfl (i := 61) (by decide) (Nat.le_of_ble_eq_true rfl) hly_16_61 rfl hin2 rfl hlk_132 (ty := (.array .int)) (v := .ref H_445.size) (by decide +kernel) rfl rfl dX14_init_348 (fun H_457 locs_457 hraw_457 hr_457 hh_457 => ?_)
  have hraw_457 : va_at (dC, dI) vwCl (r0, .inr (16, [.ref s.heap.size, .int 0, .ref H_7.size, .int 0, .int 0, .ref H_15.size, .int 0, .int 0, .int 0, .ref H_23.size, .int 0, .int 0, .int 0, .ref H_31.size, .ref H_45.size, .int (-1), .int 0, .ref H_62.size, .ref H_72.size, .ref H_82.size, .ref H_92.size, .ref H_102.size, .ref H_112.size, .ref H_127.size, .ref H_142.size, .ref H_152.size, .int 0, .ref H_162.size, .int 0, .int 0, .int 0, .int 0, .int 0, .int 0, .int 0, .int 0, .int 0, .int 0, .ref H_172.size, .int 0, .int 0, .ref H_182.size, .int 0, .ref H_254.size, .int 0, .ref H_265.size, .ref H_276.size, .ref H_291.size, .int 0, .ref H_306.size, .ref H_317.size, .ref H_328.size, .ref H_339.size, .ref H_350.size, .ref H_361.size, .ref H_372.size, .ref H_383.size, .ref H_394.size, .ref H_405.size, .ref H_422.size, .ref H_433.size, .ref H_445.size, .null, .null, .int 0, .int 0, .int 0, .null, .null, .null, .int 0, .null, .null, .null])) H_457 := hraw_457
  have hkp_458 := hkp_450.put hr_457
  clear hh_455
  refine lv_aload_n hx hb dX14_init_351 rfl (lv_at hl 0 rfl) ?_
  refine lv_iconst (v := 2) hx hb dX14_init_352 (by decide) ?_
  clear hsz_447 htt_447
  have hsz_459 := hh_457.2.2.2.2.2.1
  have htt_459 := hh_457.2.2.2.2.2.2.1
  refine j7_newiK hx hb hK hh_457 hB (atype := .int) (ty := .int) (htw (.arrayClass .int) (jWr_3 _ (List.mem_of_getElem? (i := 20) rfl))) rfl rfl (fun _ h => h) hB101 1 rfl (by decide) (by decide) hbs (x := 2) (by decide) (by omega) (fun j => by first | trivial | decide | rfl | exact Or.inl rfl | (refine ⟨?_, ?_⟩ <;> decide)) (by rw [hRc]; omega) (by rw [hRs]; omega) dX14_init_353 (fun H_459 hfr_459 hh_459 => ?_)
  have hh_459 : jSt (dC, dI) B base G0 (va_up G_447 H_457.size (some (101, 2))) EX14_init s.heap (((((((((((((((((((((((((((((((((((((((((((((((0 + 1) + 1) + 1) + 1) + 1) + (1)) + 1) + (1)) + 1) + 1) + 1) + 1) + 1) + 1) + 1) + 1) + 1) + 1) + 1) + 1) + 1) + (6)) + 1) + (6)) + 1) + (6)) + 1) + 1) + 1) + (6)) + 1) + (6)) + 1) + 1) + 1) + 1) + 1) + 1) + 1) + 1) + 1) + 1) + (28)) + 1) + 1) + 1) + 1) (((((((((((((((((((((((((((((((((((((((((((((((0 + 4000) + 20000) + 100000) + 3300) + 4) + (16)) + 4) + (16)) + 3100) + 3100) + 3100) + 3100) + 3100) + 3100) + 3100) + 3100) + 3100) + 3300) + 20) + 3) + 11) + (1700)) + 11) + (1700)) + 11) + (1700)) + 3100) + 1500) + 11) + (1700)) + 11) + (1700)) + 12) + 12) + 12) + 12) + 12) + 240) + 12) + 37200) + 12) + 50) + (720031)) + 3100) + 2) + 2) + 2) [(H_45.size, 0, 3, .int qc_52), (H_45.size, 0, 0, .ref xa_52), (H_31.size, 0, 3, .int qc_38), (H_31.size, 0, 0, .ref xa_38)] [(H_127.size, 123, 3100, ca 1, (fun _ => 0)), (H_112.size, 122, 3100, ca 1, (fun _ => 0))] [(jFz9, jDZ dC dI G_447), ([(208, 0)], jQc dC dI (ca 4) H_433.size 2 (fun _ => none)), ([(201, 0)], jQc dC dI (ca 4) H_182.size 3 (va_up (va_up (va_up (fun _ => none) 0 (some H_184.size)) 1 (some H_205.size)) 2 (some H_224.size)))] H_459 locs_457 := hh_459
  have hZ_459 : jN14 G_447 (va_up G_447 H_457.size (some (101, 2))) := jN14.new (by decide)
  have hN_459 : (jNk [1, 2, 3, 4, 5, 6, 7, 8, 9, 10, 11, 12, 13]) G_447 (va_up G_447 H_457.size (some (101, 2))) := jNk.new (by decide)
  have hgn_459 : (va_up G_447 H_457.size (some (101, 2))) H_457.size = some (101, 2) := jUp_self
  have hle_459 : jLe G_447 (va_up G_447 H_457.size (some (101, 2))) := jLe.new hh_457.2.1.fresh
  have hke_459 : jKe G_447 (va_up G_447 H_457.size (some (101, 2))) H_457 H_459 := jKe.new hfr_459
  have hsy_459 : s.heap.size ≤ H_457.size := hh_457.1.1
  generalize (va_up G_447 H_457.size (some (101, 2))) = G_459 at hN_459 hgn_459 hle_459 hke_459 hh_459 hZ_459
  clear hh_457
  have hNn_459 : (jNk [1, 2, 3, 4, 5, 6, 7, 8, 9, 10, 11, 12, 13]) G0 G_459 := (hNn_447).tr hN_459
  have hg_460 := hle_459 _ _ hg_448
  have hg_461 := hle_459 _ _ hg_449
  have hkp_462 := hkp_458.tr hke_459
  have hraw_463n := hke_459.nr hraw_457.lt hraw_451n
  have hraw_463 := hraw_457.kept (hke_459.1 _ hraw_457.lt)
  have hz14_459 : jN14 G0 G_459 := (hz14_447).tr hZ_459
  have hd_464 := jDZ.grow (hh_459.iv 0 rfl) hle_459 hZ_459
  have hh_465 := hh_459.sub (L1 := [(H_45.size, 0, 3, .int qc_52), (H_45.size, 0, 0, .ref xa_52), (H_31.size, 0, 3, .int qc_38), (H_31.size, 0, 0, .ref xa_38)]) [0, 1, 2, 3] rfl (M1 := [(H_127.size, 123, 3100, ca 1, (fun _ => 0)), (H_112.size, 122, 3100, ca 1, (fun _ => 0))]) [0, 1] rfl (I1 := [([(208, 0)], jQc dC dI (ca 4) H_433.size 2 (fun _ => none)), ([(201, 0)], jQc dC dI (ca 4) H_182.size 3 (va_up (va_up (va_up (fun _ => none) 0 (some H_184.size)) 1 (some H_205.size)) 2 (some H_224.size)))]) [1, 2] rfl
  clear hh_459
  have hh_466 := hh_465.addI (jDZ.ie hd_464)
  clear hh_465
  refine j7_putRF hx hb hown hK hh_466 hB hAp hraw_463 hraw_463n hbr0 (C := RX14) (T := TX14) (N := 74) rfl (i := 62) (by decide) (Nat.le_of_ble_eq_true rfl) hly_16_62 rfl hin2 rfl hlk_135 (ty := (.array .int)) (v := .ref H_457.size) (by decide +kernel) rfl rfl dX14_init_355 (fun H_469 locs_469 hraw_469 hr_469 hh_469 => ?_)
  have hraw_469 : va_at (dC, dI) vwCl (r0, .inr (16, [.ref s.heap.size, .int 0, .ref H_7.size, .int 0, .int 0, .ref H_15.size, .int 0, .int 0, .int 0, .ref H_23.size, .int 0, .int 0, .int 0, .ref H_31.size, .ref H_45.size, .int (-1), .int 0, .ref H_62.size, .ref H_72.size, .ref H_82.size, .ref H_92.size, .ref H_102.size, .ref H_112.size, .ref H_127.size, .ref H_142.size, .ref H_152.size, .int 0, .ref H_162.size, .int 0, .int 0, .int 0, .int 0, .int 0, .int 0, .int 0, .int 0, .int 0, .int 0, .ref H_172.size, .int 0, .int 0, .ref H_182.size, .int 0, .ref H_254.size, .int 0, .ref H_265.size, .ref H_276.size, .ref H_291.size, .int 0, .ref H_306.size, .ref H_317.size, .ref H_328.size, .ref H_339.size, .ref H_350.size, .ref H_361.size, .ref H_372.size, .ref H_383.size, .ref H_394.size, .ref H_405.size, .ref H_422.size, .ref H_433.size, .ref H_445.size, .ref H_457.size, .null, .int 0, .int 0, .int 0, .null, .null, .null, .int 0, .null, .null, .null])) H_469 := hraw_469
  have hkp_470 := hkp_462.put hr_469
  clear hh_466
  refine lv_aload_n hx hb dX14_init_358 rfl (lv_at hl 0 rfl) ?_
  refine lv_iconst (v := 2) hx hb dX14_init_359 (by decide) ?_
  clear hsz_459 htt_459
  have hsz_471 := hh_469.2.2.2.2.2.1
  have htt_471 := hh_469.2.2.2.2.2.2.1
  refine j7_newiK hx hb hK hh_469 hB (atype := .boolean) (ty := .boolean) (htw (.arrayClass .boolean) (jWr_11 _ (List.mem_of_getElem? (i := 11) rfl))) rfl rfl (fun _ h => h) hB103 3 rfl (by decide) (by decide) hbs (x := 2) (by decide) (by omega) (fun j => by first | trivial | decide | rfl | exact Or.inl rfl | (refine ⟨?_, ?_⟩ <;> decide)) (by rw [hRc]; omega) (by rw [hRs]; omega) dX14_init_360 (fun H_471 hfr_471 hh_471 => ?_)
  have hh_471 : jSt (dC, dI) B base G0 (va_up G_459 H_469.size (some (103, 2))) EX14_init s.heap ((((((((((((((((((((((((((((((((((((((((((((((((0 + 1) + 1) + 1) + 1) + 1) + (1)) + 1) + (1)) + 1) + 1) + 1) + 1) + 1) + 1) + 1) + 1) + 1) + 1) + 1) + 1) + 1) + (6)) + 1) + (6)) + 1) + (6)) + 1) + 1) + 1) + (6)) + 1) + (6)) + 1) + 1) + 1) + 1) + 1) + 1) + 1) + 1) + 1) + 1) + (28)) + 1) + 1) + 1) + 1) + 1) ((((((((((((((((((((((((((((((((((((((((((((((((0 + 4000) + 20000) + 100000) + 3300) + 4) + (16)) + 4) + (16)) + 3100) + 3100) + 3100) + 3100) + 3100) + 3100) + 3100) + 3100) + 3100) + 3300) + 20) + 3) + 11) + (1700)) + 11) + (1700)) + 11) + (1700)) + 3100) + 1500) + 11) + (1700)) + 11) + (1700)) + 12) + 12) + 12) + 12) + 12) + 240) + 12) + 37200) + 12) + 50) + (720031)) + 3100) + 2) + 2) + 2) + 2) [(H_45.size, 0, 3, .int qc_52), (H_45.size, 0, 0, .ref xa_52), (H_31.size, 0, 3, .int qc_38), (H_31.size, 0, 0, .ref xa_38)] [(H_127.size, 123, 3100, ca 1, (fun _ => 0)), (H_112.size, 122, 3100, ca 1, (fun _ => 0))] [(jFz9, jDZ dC dI G_459), ([(208, 0)], jQc dC dI (ca 4) H_433.size 2 (fun _ => none)), ([(201, 0)], jQc dC dI (ca 4) H_182.size 3 (va_up (va_up (va_up (fun _ => none) 0 (some H_184.size)) 1 (some H_205.size)) 2 (some H_224.size)))] H_471 locs_469 := hh_471
  have hZ_471 : jN14 G_459 (va_up G_459 H_469.size (some (103, 2))) := jN14.new (by decide)
  have hN_471 : (jNk [1, 2, 3, 4, 5, 6, 7, 8, 9, 10, 11, 12, 13]) G_459 (va_up G_459 H_469.size (some (103, 2))) := jNk.new (by decide)
  have hgn_471 : (va_up G_459 H_469.size (some (103, 2))) H_469.size = some (103, 2) := jUp_self
  have hle_471 : jLe G_459 (va_up G_459 H_469.size (some (103, 2))) := jLe.new hh_469.2.1.fresh
  have hke_471 : jKe G_459 (va_up G_459 H_469.size (some (103, 2))) H_469 H_471 := jKe.new hfr_471
  have hsy_471 : s.heap.size ≤ H_469.size := hh_469.1.1
  generalize (va_up G_459 H_469.size (some (103, 2))) = G_471 at hN_471 hgn_471 hle_471 hke_471 hh_471 hZ_471
  clear hh_469
  have hNn_471 : (jNk [1, 2, 3, 4, 5, 6, 7, 8, 9, 10, 11, 12, 13]) G0 G_471 := (hNn_459).tr hN_471
  have hg_472 := hle_471 _ _ hg_460
  have hg_473 := hle_471 _ _ hg_461
  have hkp_474 := hkp_470.tr hke_471
  have hraw_475n := hke_471.nr hraw_469.lt hraw_463n
  have hraw_475 := hraw_469.kept (hke_471.1 _ hraw_469.lt)
  have hz14_471 : jN14 G0 G_471 := (hz14_459).tr hZ_471
  have hd_476 := jDZ.grow (hh_471.iv 0 rfl) hle_471 hZ_471
  have hh_477 := hh_471.sub (L1 := [(H_45.size, 0, 3, .int qc_52), (H_45.size, 0, 0, .ref xa_52), (H_31.size, 0, 3, .int qc_38), (H_31.size, 0, 0, .ref xa_38)]) [0, 1, 2, 3] rfl (M1 := [(H_127.size, 123, 3100, ca 1, (fun _ => 0)), (H_112.size, 122, 3100, ca 1, (fun _ => 0))]) [0, 1] rfl (I1 := [([(208, 0)], jQc dC dI (ca 4) H_433.size 2 (fun _ => none)), ([(201, 0)], jQc dC dI (ca 4) H_182.size 3 (va_up (va_up (va_up (fun _ => none) 0 (some H_184.size)) 1 (some H_205.size)) 2 (some H_224.size)))]) [1, 2] rfl
  clear hh_471
  have hh_478 := hh_477.addI (jDZ.ie hd_476)
  clear hh_477
  refine j7_putRF hx hb hown hK hh_478 hB hAp hraw_475 hraw_475n hbr0 (C := RX14) (T := TX14) (N := 74) rfl (i := 63) (by decide) (Nat.le_of_ble_eq_true rfl) hly_16_63 rfl hin2 rfl hlk_138 (ty := (.array .boolean)) (v := .ref H_469.size) (by decide +kernel) rfl rfl dX14_init_362 (fun H_481 locs_481 hraw_481 hr_481 hh_481 => ?_)
  have hraw_481 : va_at (dC, dI) vwCl (r0, .inr (16, [.ref s.heap.size, .int 0, .ref H_7.size, .int 0, .int 0, .ref H_15.size, .int 0, .int 0, .int 0, .ref H_23.size, .int 0, .int 0, .int 0, .ref H_31.size, .ref H_45.size, .int (-1), .int 0, .ref H_62.size, .ref H_72.size, .ref H_82.size, .ref H_92.size, .ref H_102.size, .ref H_112.size, .ref H_127.size, .ref H_142.size, .ref H_152.size, .int 0, .ref H_162.size, .int 0, .int 0, .int 0, .int 0, .int 0, .int 0, .int 0, .int 0, .int 0, .int 0, .ref H_172.size, .int 0, .int 0, .ref H_182.size, .int 0, .ref H_254.size, .int 0, .ref H_265.size, .ref H_276.size, .ref H_291.size, .int 0, .ref H_306.size, .ref H_317.size, .ref H_328.size, .ref H_339.size, .ref H_350.size, .ref H_361.size, .ref H_372.size, .ref H_383.size, .ref H_394.size, .ref H_405.size, .ref H_422.size, .ref H_433.size, .ref H_445.size, .ref H_457.size, .ref H_469.size, .int 0, .int 0, .int 0, .null, .null, .null, .int 0, .null, .null, .null])) H_481 := hraw_481
  have hkp_482 := hkp_474.put hr_481
  clear hh_478
  refine lv_aload_n hx hb dX14_init_365 rfl (lv_at hl 0 rfl) ?_
  refine lv_ldc hx hb hown hcs_141 dX14_init_366 ?_
  clear hsz_471 htt_471
  have hsz_483 := hh_481.2.2.2.2.2.1
  have htt_483 := hh_481.2.2.2.2.2.2.1
  refine j7_newiK hx hb hK hh_481 hB (atype := .int) (ty := .int) (htw (.arrayClass .int) (jWr_3 _ (List.mem_of_getElem? (i := 20) rfl))) rfl rfl (fun _ h => h) hB101 1 rfl (by decide) (by decide) hbs (x := 38400) (by decide) (by omega) (fun j => by first | trivial | decide | rfl | exact Or.inl rfl | (refine ⟨?_, ?_⟩ <;> decide)) (by rw [hRc]; omega) (by rw [hRs]; omega) dX14_init_368 (fun H_483 hfr_483 hh_483 => ?_)
  have hh_483 : jSt (dC, dI) B base G0 (va_up G_471 H_481.size (some (101, 38400))) EX14_init s.heap (((((((((((((((((((((((((((((((((((((((((((((((((0 + 1) + 1) + 1) + 1) + 1) + (1)) + 1) + (1)) + 1) + 1) + 1) + 1) + 1) + 1) + 1) + 1) + 1) + 1) + 1) + 1) + 1) + (6)) + 1) + (6)) + 1) + (6)) + 1) + 1) + 1) + (6)) + 1) + (6)) + 1) + 1) + 1) + 1) + 1) + 1) + 1) + 1) + 1) + 1) + (28)) + 1) + 1) + 1) + 1) + 1) + 1) (((((((((((((((((((((((((((((((((((((((((((((((((0 + 4000) + 20000) + 100000) + 3300) + 4) + (16)) + 4) + (16)) + 3100) + 3100) + 3100) + 3100) + 3100) + 3100) + 3100) + 3100) + 3100) + 3300) + 20) + 3) + 11) + (1700)) + 11) + (1700)) + 11) + (1700)) + 3100) + 1500) + 11) + (1700)) + 11) + (1700)) + 12) + 12) + 12) + 12) + 12) + 240) + 12) + 37200) + 12) + 50) + (720031)) + 3100) + 2) + 2) + 2) + 2) + 38400) [(H_45.size, 0, 3, .int qc_52), (H_45.size, 0, 0, .ref xa_52), (H_31.size, 0, 3, .int qc_38), (H_31.size, 0, 0, .ref xa_38)] [(H_127.size, 123, 3100, ca 1, (fun _ => 0)), (H_112.size, 122, 3100, ca 1, (fun _ => 0))] [(jFz9, jDZ dC dI G_471), ([(208, 0)], jQc dC dI (ca 4) H_433.size 2 (fun _ => none)), ([(201, 0)], jQc dC dI (ca 4) H_182.size 3 (va_up (va_up (va_up (fun _ => none) 0 (some H_184.size)) 1 (some H_205.size)) 2 (some H_224.size)))] H_483 locs_481 := hh_483
  have hZ_483 : jN14 G_471 (va_up G_471 H_481.size (some (101, 38400))) := jN14.new (by decide)
  have hN_483 : (jNk [1, 2, 3, 4, 5, 6, 7, 8, 9, 10, 11, 12, 13]) G_471 (va_up G_471 H_481.size (some (101, 38400))) := jNk.new (by decide)
  have hgn_483 : (va_up G_471 H_481.size (some (101, 38400))) H_481.size = some (101, 38400) := jUp_self
  have hle_483 : jLe G_471 (va_up G_471 H_481.size (some (101, 38400))) := jLe.new hh_481.2.1.fresh
  have hke_483 : jKe G_471 (va_up G_471 H_481.size (some (101, 38400))) H_481 H_483 := jKe.new hfr_483
  have hsy_483 : s.heap.size ≤ H_481.size := hh_481.1.1
  generalize (va_up G_471 H_481.size (some (101, 38400))) = G_483 at hN_483 hgn_483 hle_483 hke_483 hh_483 hZ_483
  clear hh_481
  have hNn_483 : (jNk [1, 2, 3, 4, 5, 6, 7, 8, 9, 10, 11, 12, 13]) G0 G_483 := (hNn_471).tr hN_483
  have hg_484 := hle_483 _ _ hg_472
  have hg_485 := hle_483 _ _ hg_473
  have hkp_486 := hkp_482.tr hke_483
  have hraw_487n := hke_483.nr hraw_481.lt hraw_475n
  have hraw_487 := hraw_481.kept (hke_483.1 _ hraw_481.lt)
  have hz14_483 : jN14 G0 G_483 := (hz14_471).tr hZ_483
  have hd_488 := jDZ.grow (hh_483.iv 0 rfl) hle_483 hZ_483
  have hh_489 := hh_483.sub (L1 := [(H_45.size, 0, 3, .int qc_52), (H_45.size, 0, 0, .ref xa_52), (H_31.size, 0, 3, .int qc_38), (H_31.size, 0, 0, .ref xa_38)]) [0, 1, 2, 3] rfl (M1 := [(H_127.size, 123, 3100, ca 1, (fun _ => 0)), (H_112.size, 122, 3100, ca 1, (fun _ => 0))]) [0, 1] rfl (I1 := [([(208, 0)], jQc dC dI (ca 4) H_433.size 2 (fun _ => none)), ([(201, 0)], jQc dC dI (ca 4) H_182.size 3 (va_up (va_up (va_up (fun _ => none) 0 (some H_184.size)) 1 (some H_205.size)) 2 (some H_224.size)))]) [1, 2] rfl
  clear hh_483
  have hh_490 := hh_489.addI (jDZ.ie hd_488)
  clear hh_489
  refine j7_putRF hx hb hown hK hh_490 hB hAp hraw_487 hraw_487n hbr0 (C := RX14) (T := TX14) (N := 74) rfl (i := 67) (by decide) (Nat.le_of_ble_eq_true rfl) hly_16_67 rfl hin2 rfl hlk_142 (ty := (.array .int)) (v := .ref H_481.size) (by decide +kernel) rfl rfl dX14_init_370 (fun H_493 locs_493 hraw_493 hr_493 hh_493 => ?_)
  have hraw_493 : va_at (dC, dI) vwCl (r0, .inr (16, [.ref s.heap.size, .int 0, .ref H_7.size, .int 0, .int 0, .ref H_15.size, .int 0, .int 0, .int 0, .ref H_23.size, .int 0, .int 0, .int 0, .ref H_31.size, .ref H_45.size, .int (-1), .int 0, .ref H_62.size, .ref H_72.size, .ref H_82.size, .ref H_92.size, .ref H_102.size, .ref H_112.size, .ref H_127.size, .ref H_142.size, .ref H_152.size, .int 0, .ref H_162.size, .int 0, .int 0, .int 0, .int 0, .int 0, .int 0, .int 0, .int 0, .int 0, .int 0, .ref H_172.size, .int 0, .int 0, .ref H_182.size, .int 0, .ref H_254.size, .int 0, .ref H_265.size, .ref H_276.size, .ref H_291.size, .int 0, .ref H_306.size, .ref H_317.size, .ref H_328.size, .ref H_339.size, .ref H_350.size, .ref H_361.size, .ref H_372.size, .ref H_383.size, .ref H_394.size, .ref H_405.size, .ref H_422.size, .ref H_433.size, .ref H_445.size, .ref H_457.size, .ref H_469.size, .int 0, .int 0, .int 0, .ref H_481.size, .null, .null, .int 0, .null, .null, .null])) H_493 := hraw_493
  have hkp_494 := hkp_486.put hr_493
  clear hh_490
  refine lv_aload_n hx hb dX14_init_373 rfl (lv_at hl 0 rfl) ?_
  refine lv_bipush (v := 24) hx hb dX14_init_374 (by decide) ?_
  clear hsz_483 htt_483
  have hsz_495 := hh_493.2.2.2.2.2.1
  have htt_495 := hh_493.2.2.2.2.2.2.1
  refine j7_newiK hx hb hK hh_493 hB (atype := .int) (ty := .int) (htw (.arrayClass .int) (jWr_3 _ (List.mem_of_getElem? (i := 20) rfl))) rfl rfl (fun _ h => h) hB205 1 rfl (by decide) (by decide) hbs (x := 24) (by decide) (by omega) (fun j => by first | trivial | decide | rfl | exact Or.inl rfl | (refine ⟨?_, ?_⟩ <;> decide)) (by rw [hRc]; omega) (by rw [hRs]; omega) dX14_init_376 (fun H_495 hfr_495 hh_495 => ?_)
  have hh_495 : jSt (dC, dI) B base G0 (va_up G_483 H_493.size (some (205, 24))) EX14_init s.heap ((((((((((((((((((((((((((((((((((((((((((((((((((0 + 1) + 1) + 1) + 1) + 1) + (1)) + 1) + (1)) + 1) + 1) + 1) + 1) + 1) + 1) + 1) + 1) + 1) + 1) + 1) + 1) + 1) + (6)) + 1) + (6)) + 1) + (6)) + 1) + 1) + 1) + (6)) + 1) + (6)) + 1) + 1) + 1) + 1) + 1) + 1) + 1) + 1) + 1) + 1) + (28)) + 1) + 1) + 1) + 1) + 1) + 1) + 1) ((((((((((((((((((((((((((((((((((((((((((((((((((0 + 4000) + 20000) + 100000) + 3300) + 4) + (16)) + 4) + (16)) + 3100) + 3100) + 3100) + 3100) + 3100) + 3100) + 3100) + 3100) + 3100) + 3300) + 20) + 3) + 11) + (1700)) + 11) + (1700)) + 11) + (1700)) + 3100) + 1500) + 11) + (1700)) + 11) + (1700)) + 12) + 12) + 12) + 12) + 12) + 240) + 12) + 37200) + 12) + 50) + (720031)) + 3100) + 2) + 2) + 2) + 2) + 38400) + 24) [(H_45.size, 0, 3, .int qc_52), (H_45.size, 0, 0, .ref xa_52), (H_31.size, 0, 3, .int qc_38), (H_31.size, 0, 0, .ref xa_38)] [(H_127.size, 123, 3100, ca 1, (fun _ => 0)), (H_112.size, 122, 3100, ca 1, (fun _ => 0))] [(jFz9, jDZ dC dI G_483), ([(208, 0)], jQc dC dI (ca 4) H_433.size 2 (fun _ => none)), ([(201, 0)], jQc dC dI (ca 4) H_182.size 3 (va_up (va_up (va_up (fun _ => none) 0 (some H_184.size)) 1 (some H_205.size)) 2 (some H_224.size)))] H_495 locs_493 := hh_495
  have hZ_495 : jN14 G_483 (va_up G_483 H_493.size (some (205, 24))) := jN14.new (by decide)
  have hN_495 : (jNk [1, 2, 3, 4, 5, 6, 7, 8, 9, 10, 11, 12, 13]) G_483 (va_up G_483 H_493.size (some (205, 24))) := jNk.new (by decide)
  have hgn_495 : (va_up G_483 H_493.size (some (205, 24))) H_493.size = some (205, 24) := jUp_self
  have hle_495 : jLe G_483 (va_up G_483 H_493.size (some (205, 24))) := jLe.new hh_493.2.1.fresh
  have hke_495 : jKe G_483 (va_up G_483 H_493.size (some (205, 24))) H_493 H_495 := jKe.new hfr_495
  have hsy_495 : s.heap.size ≤ H_493.size := hh_493.1.1
  generalize (va_up G_483 H_493.size (some (205, 24))) = G_495 at hN_495 hgn_495 hle_495 hke_495 hh_495 hZ_495
  clear hh_493
  have hNn_495 : (jNk [1, 2, 3, 4, 5, 6, 7, 8, 9, 10, 11, 12, 13]) G0 G_495 := (hNn_483).tr hN_495
  have hg_496 := hle_495 _ _ hg_484
  have hg_497 := hle_495 _ _ hg_485
  have hkp_498 := hkp_494.tr hke_495
  have hraw_499n := hke_495.nr hraw_493.lt hraw_487n
  have hraw_499 := hraw_493.kept (hke_495.1 _ hraw_493.lt)
  have hz14_495 : jN14 G0 G_495 := (hz14_483).tr hZ_495
  have hd_500 := jDZ.grow (hh_495.iv 0 rfl) hle_495 hZ_495
  have hh_501 := hh_495.sub (L1 := [(H_45.size, 0, 3, .int qc_52), (H_45.size, 0, 0, .ref xa_52), (H_31.size, 0, 3, .int qc_38), (H_31.size, 0, 0, .ref xa_38)]) [0, 1, 2, 3] rfl (M1 := [(H_127.size, 123, 3100, ca 1, (fun _ => 0)), (H_112.size, 122, 3100, ca 1, (fun _ => 0))]) [0, 1] rfl (I1 := [([(208, 0)], jQc dC dI (ca 4) H_433.size 2 (fun _ => none)), ([(201, 0)], jQc dC dI (ca 4) H_182.size 3 (va_up (va_up (va_up (fun _ => none) 0 (some H_184.size)) 1 (some H_205.size)) 2 (some H_224.size)))]) [1, 2] rfl
  clear hh_495
  have hh_502 := hh_501.addI (jDZ.ie hd_500)
  clear hh_501
  refine j7_putRF hx hb hown hK hh_502 hB hAp hraw_499 hraw_499n hbr0 (C := RX14) (T := TX14) (N := 74) rfl (i := 68) (by decide) (Nat.le_of_ble_eq_true rfl) hly_16_68 rfl hin2 rfl hlk_145 (ty := (.array .int)) (v := .ref H_493.size) (by decide +kernel) rfl rfl dX14_init_378 (fun H_505 locs_505 hraw_505 hr_505 hh_505 => ?_)
  have hraw_505 : va_at (dC, dI) vwCl (r0, .inr (16, [.ref s.heap.size, .int 0, .ref H_7.size, .int 0, .int 0, .ref H_15.size, .int 0, .int 0, .int 0, .ref H_23.size, .int 0, .int 0, .int 0, .ref H_31.size, .ref H_45.size, .int (-1), .int 0, .ref H_62.size, .ref H_72.size, .ref H_82.size, .ref H_92.size, .ref H_102.size, .ref H_112.size, .ref H_127.size, .ref H_142.size, .ref H_152.size, .int 0, .ref H_162.size, .int 0, .int 0, .int 0, .int 0, .int 0, .int 0, .int 0, .int 0, .int 0, .int 0, .ref H_172.size, .int 0, .int 0, .ref H_182.size, .int 0, .ref H_254.size, .int 0, .ref H_265.size, .ref H_276.size, .ref H_291.size, .int 0, .ref H_306.size, .ref H_317.size, .ref H_328.size, .ref H_339.size, .ref H_350.size, .ref H_361.size, .ref H_372.size, .ref H_383.size, .ref H_394.size, .ref H_405.size, .ref H_422.size, .ref H_433.size, .ref H_445.size, .ref H_457.size, .ref H_469.size, .int 0, .int 0, .int 0, .ref H_481.size, .ref H_493.size, .null, .int 0, .null, .null, .null])) H_505 := hraw_505
  have hkp_506 := hkp_498.put hr_505
  clear hh_502
  refine lv_aload_n hx hb dX14_init_381 rfl (lv_at hl 0 rfl) ?_
  refine lv_sipush (v := 1600) hx hb dX14_init_382 (by decide) ?_
  clear hsz_495 htt_495
  have hsz_507 := hh_505.2.2.2.2.2.1
  have htt_507 := hh_505.2.2.2.2.2.2.1
  refine j7_newiK hx hb hK hh_505 hB (atype := .int) (ty := .int) (htw (.arrayClass .int) (jWr_3 _ (List.mem_of_getElem? (i := 20) rfl))) rfl rfl (fun _ h => h) hB101 1 rfl (by decide) (by decide) hbs (x := 1600) (by decide) (by omega) (fun j => by first | trivial | decide | rfl | exact Or.inl rfl | (refine ⟨?_, ?_⟩ <;> decide)) (by rw [hRc]; omega) (by rw [hRs]; omega) dX14_init_385 (fun H_507 hfr_507 hh_507 => ?_)
  have hh_507 : jSt (dC, dI) B base G0 (va_up G_495 H_505.size (some (101, 1600))) EX14_init s.heap (((((((((((((((((((((((((((((((((((((((((((((((((((0 + 1) + 1) + 1) + 1) + 1) + (1)) + 1) + (1)) + 1) + 1) + 1) + 1) + 1) + 1) + 1) + 1) + 1) + 1) + 1) + 1) + 1) + (6)) + 1) + (6)) + 1) + (6)) + 1) + 1) + 1) + (6)) + 1) + (6)) + 1) + 1) + 1) + 1) + 1) + 1) + 1) + 1) + 1) + 1) + (28)) + 1) + 1) + 1) + 1) + 1) + 1) + 1) + 1) (((((((((((((((((((((((((((((((((((((((((((((((((((0 + 4000) + 20000) + 100000) + 3300) + 4) + (16)) + 4) + (16)) + 3100) + 3100) + 3100) + 3100) + 3100) + 3100) + 3100) + 3100) + 3100) + 3300) + 20) + 3) + 11) + (1700)) + 11) + (1700)) + 11) + (1700)) + 3100) + 1500) + 11) + (1700)) + 11) + (1700)) + 12) + 12) + 12) + 12) + 12) + 240) + 12) + 37200) + 12) + 50) + (720031)) + 3100) + 2) + 2) + 2) + 2) + 38400) + 24) + 1600) [(H_45.size, 0, 3, .int qc_52), (H_45.size, 0, 0, .ref xa_52), (H_31.size, 0, 3, .int qc_38), (H_31.size, 0, 0, .ref xa_38)] [(H_127.size, 123, 3100, ca 1, (fun _ => 0)), (H_112.size, 122, 3100, ca 1, (fun _ => 0))] [(jFz9, jDZ dC dI G_495), ([(208, 0)], jQc dC dI (ca 4) H_433.size 2 (fun _ => none)), ([(201, 0)], jQc dC dI (ca 4) H_182.size 3 (va_up (va_up (va_up (fun _ => none) 0 (some H_184.size)) 1 (some H_205.size)) 2 (some H_224.size)))] H_507 locs_505 := hh_507
  have hZ_507 : jN14 G_495 (va_up G_495 H_505.size (some (101, 1600))) := jN14.new (by decide)
  have hN_507 : (jNk [1, 2, 3, 4, 5, 6, 7, 8, 9, 10, 11, 12, 13]) G_495 (va_up G_495 H_505.size (some (101, 1600))) := jNk.new (by decide)
  have hgn_507 : (va_up G_495 H_505.size (some (101, 1600))) H_505.size = some (101, 1600) := jUp_self
  have hle_507 : jLe G_495 (va_up G_495 H_505.size (some (101, 1600))) := jLe.new hh_505.2.1.fresh
  have hke_507 : jKe G_495 (va_up G_495 H_505.size (some (101, 1600))) H_505 H_507 := jKe.new hfr_507
  have hsy_507 : s.heap.size ≤ H_505.size := hh_505.1.1
  generalize (va_up G_495 H_505.size (some (101, 1600))) = G_507 at hN_507 hgn_507 hle_507 hke_507 hh_507 hZ_507
  clear hh_505
  have hNn_507 : (jNk [1, 2, 3, 4, 5, 6, 7, 8, 9, 10, 11, 12, 13]) G0 G_507 := (hNn_495).tr hN_507
  have hg_508 := hle_507 _ _ hg_496
  have hg_509 := hle_507 _ _ hg_497
  have hkp_510 := hkp_506.tr hke_507
  have hraw_511n := hke_507.nr hraw_505.lt hraw_499n
  have hraw_511 := hraw_505.kept (hke_507.1 _ hraw_505.lt)
  have hz14_507 : jN14 G0 G_507 := (hz14_495).tr hZ_507
  have hd_512 := jDZ.grow (hh_507.iv 0 rfl) hle_507 hZ_507
  have hh_513 := hh_507.sub (L1 := [(H_45.size, 0, 3, .int qc_52), (H_45.size, 0, 0, .ref xa_52), (H_31.size, 0, 3, .int qc_38), (H_31.size, 0, 0, .ref xa_38)]) [0, 1, 2, 3] rfl (M1 := [(H_127.size, 123, 3100, ca 1, (fun _ => 0)), (H_112.size, 122, 3100, ca 1, (fun _ => 0))]) [0, 1] rfl (I1 := [([(208, 0)], jQc dC dI (ca 4) H_433.size 2 (fun _ => none)), ([(201, 0)], jQc dC dI (ca 4) H_182.size 3 (va_up (va_up (va_up (fun _ => none) 0 (some H_184.size)) 1 (some H_205.size)) 2 (some H_224.size)))]) [1, 2] rfl
  clear hh_507
  have hh_514 := hh_513.addI (jDZ.ie hd_512)
  clear hh_513
  refine j7_putRF hx hb hown hK hh_514 hB hAp hraw_511 hraw_511n hbr0 (C := RX14) (T := TX14) (N := 74) rfl (i := 69) (by decide) (Nat.le_of_ble_eq_true rfl) hly_16_69 rfl hin2 rfl hlk_148 (ty := (.array .int)) (v := .ref H_505.size) (by decide +kernel) rfl rfl dX14_init_387 (fun H_517 locs_517 hraw_517 hr_517 hh_517 => ?_)
  have hraw_517 : va_at (dC, dI) vwCl (r0, .inr (16, [.ref s.heap.size, .int 0, .ref H_7.size, .int 0, .int 0, .ref H_15.size, .int 0, .int 0, .int 0, .ref H_23.size, .int 0, .int 0, .int 0, .ref H_31.size, .ref H_45.size, .int (-1), .int 0, .ref H_62.size, .ref H_72.size, .ref H_82.size, .ref H_92.size, .ref H_102.size, .ref H_112.size, .ref H_127.size, .ref H_142.size, .ref H_152.size, .int 0, .ref H_162.size, .int 0, .int 0, .int 0, .int 0, .int 0, .int 0, .int 0, .int 0, .int 0, .int 0, .ref H_172.size, .int 0, .int 0, .ref H_182.size, .int 0, .ref H_254.size, .int 0, .ref H_265.size, .ref H_276.size, .ref H_291.size, .int 0, .ref H_306.size, .ref H_317.size, .ref H_328.size, .ref H_339.size, .ref H_350.size, .ref H_361.size, .ref H_372.size, .ref H_383.size, .ref H_394.size, .ref H_405.size, .ref H_422.size, .ref H_433.size, .ref H_445.size, .ref H_457.size, .ref H_469.size, .int 0, .int 0, .int 0, .ref H_481.size, .ref H_493.size, .ref H_505.size, .int 0, .null, .null, .null])) H_517 := hraw_517
  have hkp_518 := hkp_510.put hr_517
  clear hh_514
  refine lv_aload_n hx hb dX14_init_390 rfl (lv_at hl 0 rfl) ?_
  have hlt_nw : H_291.size < H_517.size := (hh_517.ab (((((((((((((((((((hle_308).tr hle_319).tr hle_330).tr hle_341).tr hle_352).tr hle_363).tr hle_374).tr hle_385).tr hle_396).tr hb_4122).tr hle_424).tr hle_435).tr hle_447).tr hle_459).tr hle_471).tr hle_483).tr hle_495).tr hle_507) _ _ hgc_298)).2
  clear hsz_507 htt_507
  have hsz_519 := hh_517.2.2.2.2.2.1
  have htt_519 := hh_517.2.2.2.2.2.2.1
  refine j7_newo (k := 14) (C := RX12) (T := TX12) (N := 11) (fs := [.null, .int 0, .int 0, .null, .int 0, .int 0, .null, .null, .null, .int 0, .null]) hx hb htw jWc_wsX120 (fun k => ([(.array .int), .int, .int, (.array .int), .int, .int, (.array .int), (.array .int), (.array .int), .int, (.array .int)] : List FieldType).getD k .int) (by decide +kernel) hown (htw (.classLink RX14 71 RX12) (jWr_11 _ (List.mem_of_getElem? (i := 16) rfl))) (htw (.instantiable RX12 11) (jWr_11 _ (List.mem_of_getElem? (i := 17) rfl))) (htw (.initialized RX12) (jWr_11 _ (List.mem_of_getElem? (i := 18) rfl))) hK rfl (fun j hj => by rcases (by omega : j = 0 ∨ j = 1 ∨ j = 2 ∨ j = 3 ∨ j = 4 ∨ j = 5 ∨ j = 6 ∨ j = 7 ∨ j = 8 ∨ j = 9 ∨ j = 10) with rfl | rfl | rfl | rfl | rfl | rfl | rfl | rfl | rfl | rfl | rfl <;> rfl) hh_517 hB (by rw [hRc]; omega) (by rw [hRs]; omega) dX14_init_391 (fun H_519 hraw_519 hfr_519 hnr_519 hh_519 => ?_)
  have hlt_520 := hraw_517.lt
  have hke_519 : jKe G_507 G_507 H_517 H_519 := jKe.raw hfr_519
  have hbr_519 : base ≤ H_517.size := Nat.le_trans hbs hh_517.1.1
  have hsy_519 : s.heap.size ≤ H_517.size := hh_517.1.1
  clear hh_517
  have hkp_521 := hkp_518.tr hke_519
  have hraw_522n := hke_519.nr hraw_517.lt hraw_511n
  have hraw_522 := hraw_517.kept (hke_519.1 _ hraw_517.lt)
  have hne_523 : r0 ≠ H_517.size := Nat.ne_of_lt hlt_520
  refine lv_dup hx hb dX14_init_394 rfl ?_
  clear hsz_519 htt_519
  have hsz_524 := hh_519.2.2.2.2.2.1
  have htt_524 := hh_519.2.2.2.2.2.2.1
  refine W.room (fun hrc_524 hrs_524 => ?_)
  refine va_callv (A0 := jA base) (H0 := s.heap) (va_runIN (As := []) (rest := [.ref H_517.size, .ref r0]) ⟨hx, hb, hml, hown, hts⟩ (uX12_initE l dC dI ca base B hB hAp hB14 hB101 hB190 hB191 hB192 hB193 G_507 H_519 H_517.size LC LS) ⟨va_cnB 0 hts (jgW (jWr_13 _ (List.mem_of_getElem? (i := 21) rfl))) rfl rfl rfl (hG.2.2.1 RX14 73 yX12_init "ProofServerModel" (List.mem_of_getElem? (i := 1726) (by decide +kernel))) (htw (.initialized RX12) (jWr_11 _ (List.mem_of_getElem? (i := 18) rfl))) (by decide +kernel) ⟨by rw [← hR]; exact Nat.le_of_ble_eq_true rfl, by rw [← hR]; exact Nat.le_of_ble_eq_true rfl⟩, rfl, htw (.instanceMethod yX12_init) (jWr_13 _ (List.mem_of_getElem? (i := 20) rfl))⟩ ⟨fun a U g mk q => by obtain ⟨q0, q1, q2, qK, q10, q11, q12, q13, q14, q15⟩ := q; exact ⟨q0, q1, q2, jG.calling g mk a qK, q10, q11, q12, q13, q14, q15⟩, fun U hU hW => ⟨rfl, hU, hh_519.2.1, hG.step hW hU hh_519.1, hraw_519, hnr_519, hbr_519, jP.nil, (hh_519.2.2.2.2.2.2.2.2.sub (L1 := [(jFz9, jDZ dC dI G_507)]) [0] rfl), (by omega), (by omega), trivial⟩⟩ rfl rfl hl.1 rfl (lv_room (Nat.le_of_ble_eq_true rfl)) dX14_init_395 ⟨by rw [hRc]; omega, by rw [hRs]; omega⟩) hh_519.1 (fun q _ h => h) (fun q h => h) (fun u_524 t_524 H_524 locs_524 ht_524 hvm_524 hr_525 hb_524 hz_524 hk_524 hS_524 => ?_)
  rw [ht_524] at hb_524
  obtain ⟨G_524, rfl⟩ : ∃ z, z = u_524 := ⟨_, rfl⟩
  try simp only at hb_524
  obtain ⟨⟨hb_5241, hb_5242, hb_5243, hb_5244, hb_5245, hb_5246⟩, hN_524, hgc_524, hbX_524, hbE_524⟩ := hb_524
  have hN_524 : (jNk [1, 2, 3, 4, 5, 6, 7, 8, 9, 10, 11, 12, 13]) G_507 G_524 := hN_524.sub (by decide)
  have hh_524 : jSt (dC, dI) B base G0 G_524 EX14_init s.heap (((((((((((((((((((((((((((((((((((((((((((((((((((((0 + 1) + 1) + 1) + 1) + 1) + (1)) + 1) + (1)) + 1) + 1) + 1) + 1) + 1) + 1) + 1) + 1) + 1) + 1) + 1) + 1) + 1) + (6)) + 1) + (6)) + 1) + (6)) + 1) + 1) + 1) + (6)) + 1) + (6)) + 1) + 1) + 1) + 1) + 1) + 1) + 1) + 1) + 1) + 1) + (28)) + 1) + 1) + 1) + 1) + 1) + 1) + 1) + 1) + 1) + (6)) (((((((((((((((((((((((((((((((((((((((((((((((((((((0 + 4000) + 20000) + 100000) + 3300) + 4) + (16)) + 4) + (16)) + 3100) + 3100) + 3100) + 3100) + 3100) + 3100) + 3100) + 3100) + 3100) + 3300) + 20) + 3) + 11) + (1700)) + 11) + (1700)) + 11) + (1700)) + 3100) + 1500) + 11) + (1700)) + 11) + (1700)) + 12) + 12) + 12) + 12) + 12) + 240) + 12) + 37200) + 12) + 50) + (720031)) + 3100) + 2) + 2) + 2) + 2) + 38400) + 24) + 1600) + 11) + (1700)) [(H_45.size, 0, 3, .int qc_52), (H_45.size, 0, 0, .ref xa_52), (H_31.size, 0, 3, .int qc_38), (H_31.size, 0, 0, .ref xa_38)] [(H_127.size, 123, 3100, ca 1, (fun _ => 0)), (H_112.size, 122, 3100, ca 1, (fun _ => 0))] [([(208, 0)], jQc dC dI (ca 4) H_433.size 2 (fun _ => none)), ([(201, 0)], jQc dC dI (ca 4) H_182.size 3 (va_up (va_up (va_up (fun _ => none) 0 (some H_184.size)) 1 (some H_205.size)) 2 (some H_224.size)))] H_524 locs_524 := (hh_519.callG hb_5241 hb_5242 hb_5243 hb_5244 hb_5245 hS_524 rfl (L1 := [(H_45.size, 0, 3, .int qc_52), (H_45.size, 0, 0, .ref xa_52), (H_31.size, 0, 3, .int qc_38), (H_31.size, 0, 0, .ref xa_38)]) [0, 1, 2, 3] rfl rfl (M1 := [(H_127.size, 123, 3100, ca 1, (fun _ => 0)), (H_112.size, 122, 3100, ca 1, (fun _ => 0))]) [0, 1] rfl rfl (I1 := [([(208, 0)], jQc dC dI (ca 4) H_433.size 2 (fun _ => none)), ([(201, 0)], jQc dC dI (ca 4) H_182.size 3 (va_up (va_up (va_up (fun _ => none) 0 (some H_184.size)) 1 (some H_205.size)) 2 (some H_224.size)))]) [1, 2] rfl rfl).more hb_5246
  have hNn_524 : (jNk [1, 2, 3, 4, 5, 6, 7, 8, 9, 10, 11, 12, 13]) G0 G_524 := (hNn_507).tr hN_524
  have hg_526 := hb_5242 _ _ hg_508
  have hg_527 := hb_5242 _ _ hg_509
  have hh_530 := hh_524.addIs hbE_524
  try simp only at hr_525
  have hkp_531 := hkp_521.in hbX_524 hsy_519
  have hraw_532x := hbX_524.ke hraw_522.lt hne_523 hraw_522n
  have hraw_532 := hraw_522.kept hraw_532x.1
  refine j7_putRF hx hb hown hK hh_530 hB hAp hraw_532 hraw_532x.2 hbr0 (C := RX14) (T := TX14) (N := 74) rfl (i := 71) (by decide) (Nat.le_of_ble_eq_true rfl) hly_16_71 rfl hin2 rfl hlk_151 (ty := (.object "ProofServerModel$Document")) (v := .ref H_517.size) (by decide +kernel) rfl rfl dX14_init_398 (fun H_533 locs_533 hraw_533 hr_533 hh_533 => ?_)
  have hraw_533 : va_at (dC, dI) vwCl (r0, .inr (16, [.ref s.heap.size, .int 0, .ref H_7.size, .int 0, .int 0, .ref H_15.size, .int 0, .int 0, .int 0, .ref H_23.size, .int 0, .int 0, .int 0, .ref H_31.size, .ref H_45.size, .int (-1), .int 0, .ref H_62.size, .ref H_72.size, .ref H_82.size, .ref H_92.size, .ref H_102.size, .ref H_112.size, .ref H_127.size, .ref H_142.size, .ref H_152.size, .int 0, .ref H_162.size, .int 0, .int 0, .int 0, .int 0, .int 0, .int 0, .int 0, .int 0, .int 0, .int 0, .ref H_172.size, .int 0, .int 0, .ref H_182.size, .int 0, .ref H_254.size, .int 0, .ref H_265.size, .ref H_276.size, .ref H_291.size, .int 0, .ref H_306.size, .ref H_317.size, .ref H_328.size, .ref H_339.size, .ref H_350.size, .ref H_361.size, .ref H_372.size, .ref H_383.size, .ref H_394.size, .ref H_405.size, .ref H_422.size, .ref H_433.size, .ref H_445.size, .ref H_457.size, .ref H_469.size, .int 0, .int 0, .int 0, .ref H_481.size, .ref H_493.size, .ref H_505.size, .int 0, .ref H_517.size, .null, .null])) H_533 := hraw_533
  have hkp_534 := hkp_531.put hr_533
  clear hh_530
  refine lv_aload_n hx hb dX14_init_401 rfl (lv_at hl 0 rfl) ?_
  refine lv_bipush (v := 40) hx hb dX14_init_402 (by decide) ?_
  clear hsz_524 htt_524 hrc_524 hrs_524
  have hsz_535 := hh_533.2.2.2.2.2.1
  have htt_535 := hh_533.2.2.2.2.2.2.1
  refine j7_newiK hx hb hK hh_533 hB (atype := .int) (ty := .int) (htw (.arrayClass .int) (jWr_3 _ (List.mem_of_getElem? (i := 20) rfl))) rfl rfl (fun _ h => h) hB101 1 rfl (by decide) (by decide) hbs (x := 40) (by decide) (by omega) (fun j => by first | trivial | decide | rfl | exact Or.inl rfl | (refine ⟨?_, ?_⟩ <;> decide)) (by rw [hRc]; omega) (by rw [hRs]; omega) dX14_init_404 (fun H_535 hfr_535 hh_535 => ?_)
  have hh_535 : jSt (dC, dI) B base G0 (va_up G_524 H_533.size (some (101, 40))) EX14_init s.heap ((((((((((((((((((((((((((((((((((((((((((((((((((((((0 + 1) + 1) + 1) + 1) + 1) + (1)) + 1) + (1)) + 1) + 1) + 1) + 1) + 1) + 1) + 1) + 1) + 1) + 1) + 1) + 1) + 1) + (6)) + 1) + (6)) + 1) + (6)) + 1) + 1) + 1) + (6)) + 1) + (6)) + 1) + 1) + 1) + 1) + 1) + 1) + 1) + 1) + 1) + 1) + (28)) + 1) + 1) + 1) + 1) + 1) + 1) + 1) + 1) + 1) + (6)) + 1) ((((((((((((((((((((((((((((((((((((((((((((((((((((((0 + 4000) + 20000) + 100000) + 3300) + 4) + (16)) + 4) + (16)) + 3100) + 3100) + 3100) + 3100) + 3100) + 3100) + 3100) + 3100) + 3100) + 3300) + 20) + 3) + 11) + (1700)) + 11) + (1700)) + 11) + (1700)) + 3100) + 1500) + 11) + (1700)) + 11) + (1700)) + 12) + 12) + 12) + 12) + 12) + 240) + 12) + 37200) + 12) + 50) + (720031)) + 3100) + 2) + 2) + 2) + 2) + 38400) + 24) + 1600) + 11) + (1700)) + 40) [(H_45.size, 0, 3, .int qc_52), (H_45.size, 0, 0, .ref xa_52), (H_31.size, 0, 3, .int qc_38), (H_31.size, 0, 0, .ref xa_38)] [(H_127.size, 123, 3100, ca 1, (fun _ => 0)), (H_112.size, 122, 3100, ca 1, (fun _ => 0))] [(jFz9, jDZ dC dI G_524), ([(208, 0)], jQc dC dI (ca 4) H_433.size 2 (fun _ => none)), ([(201, 0)], jQc dC dI (ca 4) H_182.size 3 (va_up (va_up (va_up (fun _ => none) 0 (some H_184.size)) 1 (some H_205.size)) 2 (some H_224.size)))] H_535 locs_533 := hh_535
  have hZ_535 : jN14 G_524 (va_up G_524 H_533.size (some (101, 40))) := jN14.new (by decide)
  have hN_535 : (jNk [1, 2, 3, 4, 5, 6, 7, 8, 9, 10, 11, 12, 13]) G_524 (va_up G_524 H_533.size (some (101, 40))) := jNk.new (by decide)
  have hgn_535 : (va_up G_524 H_533.size (some (101, 40))) H_533.size = some (101, 40) := jUp_self
  have hle_535 : jLe G_524 (va_up G_524 H_533.size (some (101, 40))) := jLe.new hh_533.2.1.fresh
  have hke_535 : jKe G_524 (va_up G_524 H_533.size (some (101, 40))) H_533 H_535 := jKe.new hfr_535
  have hsy_535 : s.heap.size ≤ H_533.size := hh_533.1.1
  generalize (va_up G_524 H_533.size (some (101, 40))) = G_535 at hN_535 hgn_535 hle_535 hke_535 hh_535 hZ_535
  clear hh_533
  have hNn_535 : (jNk [1, 2, 3, 4, 5, 6, 7, 8, 9, 10, 11, 12, 13]) G0 G_535 := (hNn_524).tr hN_535
  have hg_536 := hle_535 _ _ hg_526
  have hg_537 := hle_535 _ _ hg_527
  have hkp_538 := hkp_534.tr hke_535
  have hraw_539n := hke_535.nr hraw_533.lt hraw_532x.2
  have hraw_539 := hraw_533.kept (hke_535.1 _ hraw_533.lt)
  have hz14_535 : jN14 G0 G_535 := (hz14_507).tr hZ_535
  have hd_540 := jDZ.grow (hh_535.iv 0 rfl) hle_535 hZ_535
  have hh_541 := hh_535.sub (L1 := [(H_45.size, 0, 3, .int qc_52), (H_45.size, 0, 0, .ref xa_52), (H_31.size, 0, 3, .int qc_38), (H_31.size, 0, 0, .ref xa_38)]) [0, 1, 2, 3] rfl (M1 := [(H_127.size, 123, 3100, ca 1, (fun _ => 0)), (H_112.size, 122, 3100, ca 1, (fun _ => 0))]) [0, 1] rfl (I1 := [([(208, 0)], jQc dC dI (ca 4) H_433.size 2 (fun _ => none)), ([(201, 0)], jQc dC dI (ca 4) H_182.size 3 (va_up (va_up (va_up (fun _ => none) 0 (some H_184.size)) 1 (some H_205.size)) 2 (some H_224.size)))]) [1, 2] rfl
  clear hh_535
  have hh_542 := hh_541.addI (jDZ.ie hd_540)
  clear hh_541
  refine j7_putRF hx hb hown hK hh_542 hB hAp hraw_539 hraw_539n hbr0 (C := RX14) (T := TX14) (N := 74) rfl (i := 72) (by decide) (Nat.le_of_ble_eq_true rfl) hly_16_72 rfl hin2 rfl hlk_154 (ty := (.array .int)) (v := .ref H_533.size) (by decide +kernel) rfl rfl dX14_init_406 (fun H_545 locs_545 hraw_545 hr_545 hh_545 => ?_)
  have hraw_545 : va_at (dC, dI) vwCl (r0, .inr (16, [.ref s.heap.size, .int 0, .ref H_7.size, .int 0, .int 0, .ref H_15.size, .int 0, .int 0, .int 0, .ref H_23.size, .int 0, .int 0, .int 0, .ref H_31.size, .ref H_45.size, .int (-1), .int 0, .ref H_62.size, .ref H_72.size, .ref H_82.size, .ref H_92.size, .ref H_102.size, .ref H_112.size, .ref H_127.size, .ref H_142.size, .ref H_152.size, .int 0, .ref H_162.size, .int 0, .int 0, .int 0, .int 0, .int 0, .int 0, .int 0, .int 0, .int 0, .int 0, .ref H_172.size, .int 0, .int 0, .ref H_182.size, .int 0, .ref H_254.size, .int 0, .ref H_265.size, .ref H_276.size, .ref H_291.size, .int 0, .ref H_306.size, .ref H_317.size, .ref H_328.size, .ref H_339.size, .ref H_350.size, .ref H_361.size, .ref H_372.size, .ref H_383.size, .ref H_394.size, .ref H_405.size, .ref H_422.size, .ref H_433.size, .ref H_445.size, .ref H_457.size, .ref H_469.size, .int 0, .int 0, .int 0, .ref H_481.size, .ref H_493.size, .ref H_505.size, .int 0, .ref H_517.size, .ref H_533.size, .null])) H_545 := hraw_545
  have hkp_546 := hkp_538.put hr_545
  clear hh_542
  refine lv_aload_n hx hb dX14_init_409 rfl (lv_at hl 0 rfl) ?_
  refine lv_bipush (v := 40) hx hb dX14_init_410 (by decide) ?_
  clear hsz_535 htt_535
  have hsz_547 := hh_545.2.2.2.2.2.1
  have htt_547 := hh_545.2.2.2.2.2.2.1
  refine j7_newiK hx hb hK hh_545 hB (atype := .int) (ty := .int) (htw (.arrayClass .int) (jWr_3 _ (List.mem_of_getElem? (i := 20) rfl))) rfl rfl (fun _ h => h) hB101 1 rfl (by decide) (by decide) hbs (x := 40) (by decide) (by omega) (fun j => by first | trivial | decide | rfl | exact Or.inl rfl | (refine ⟨?_, ?_⟩ <;> decide)) (by rw [hRc]; omega) (by rw [hRs]; omega) dX14_init_412 (fun H_547 hfr_547 hh_547 => ?_)
  have hh_547 : jSt (dC, dI) B base G0 (va_up G_535 H_545.size (some (101, 40))) EX14_init s.heap (((((((((((((((((((((((((((((((((((((((((((((((((((((((0 + 1) + 1) + 1) + 1) + 1) + (1)) + 1) + (1)) + 1) + 1) + 1) + 1) + 1) + 1) + 1) + 1) + 1) + 1) + 1) + 1) + 1) + (6)) + 1) + (6)) + 1) + (6)) + 1) + 1) + 1) + (6)) + 1) + (6)) + 1) + 1) + 1) + 1) + 1) + 1) + 1) + 1) + 1) + 1) + (28)) + 1) + 1) + 1) + 1) + 1) + 1) + 1) + 1) + 1) + (6)) + 1) + 1) (((((((((((((((((((((((((((((((((((((((((((((((((((((((0 + 4000) + 20000) + 100000) + 3300) + 4) + (16)) + 4) + (16)) + 3100) + 3100) + 3100) + 3100) + 3100) + 3100) + 3100) + 3100) + 3100) + 3300) + 20) + 3) + 11) + (1700)) + 11) + (1700)) + 11) + (1700)) + 3100) + 1500) + 11) + (1700)) + 11) + (1700)) + 12) + 12) + 12) + 12) + 12) + 240) + 12) + 37200) + 12) + 50) + (720031)) + 3100) + 2) + 2) + 2) + 2) + 38400) + 24) + 1600) + 11) + (1700)) + 40) + 40) [(H_45.size, 0, 3, .int qc_52), (H_45.size, 0, 0, .ref xa_52), (H_31.size, 0, 3, .int qc_38), (H_31.size, 0, 0, .ref xa_38)] [(H_127.size, 123, 3100, ca 1, (fun _ => 0)), (H_112.size, 122, 3100, ca 1, (fun _ => 0))] [(jFz9, jDZ dC dI G_535), ([(208, 0)], jQc dC dI (ca 4) H_433.size 2 (fun _ => none)), ([(201, 0)], jQc dC dI (ca 4) H_182.size 3 (va_up (va_up (va_up (fun _ => none) 0 (some H_184.size)) 1 (some H_205.size)) 2 (some H_224.size)))] H_547 locs_545 := hh_547
  have hZ_547 : jN14 G_535 (va_up G_535 H_545.size (some (101, 40))) := jN14.new (by decide)
  have hN_547 : (jNk [1, 2, 3, 4, 5, 6, 7, 8, 9, 10, 11, 12, 13]) G_535 (va_up G_535 H_545.size (some (101, 40))) := jNk.new (by decide)
  have hgn_547 : (va_up G_535 H_545.size (some (101, 40))) H_545.size = some (101, 40) := jUp_self
  have hle_547 : jLe G_535 (va_up G_535 H_545.size (some (101, 40))) := jLe.new hh_545.2.1.fresh
  have hke_547 : jKe G_535 (va_up G_535 H_545.size (some (101, 40))) H_545 H_547 := jKe.new hfr_547
  have hsy_547 : s.heap.size ≤ H_545.size := hh_545.1.1
  generalize (va_up G_535 H_545.size (some (101, 40))) = G_547 at hN_547 hgn_547 hle_547 hke_547 hh_547 hZ_547
  clear hh_545
  have hNn_547 : (jNk [1, 2, 3, 4, 5, 6, 7, 8, 9, 10, 11, 12, 13]) G0 G_547 := (hNn_535).tr hN_547
  have hg_548 := hle_547 _ _ hg_536
  have hg_549 := hle_547 _ _ hg_537
  have hkp_550 := hkp_546.tr hke_547
  have hraw_551n := hke_547.nr hraw_545.lt hraw_539n
  have hraw_551 := hraw_545.kept (hke_547.1 _ hraw_545.lt)
  have hz14_547 : jN14 G0 G_547 := (hz14_535).tr hZ_547
  have hd_552 := jDZ.grow (hh_547.iv 0 rfl) hle_547 hZ_547
  have hh_553 := hh_547.sub (L1 := [(H_45.size, 0, 3, .int qc_52), (H_45.size, 0, 0, .ref xa_52), (H_31.size, 0, 3, .int qc_38), (H_31.size, 0, 0, .ref xa_38)]) [0, 1, 2, 3] rfl (M1 := [(H_127.size, 123, 3100, ca 1, (fun _ => 0)), (H_112.size, 122, 3100, ca 1, (fun _ => 0))]) [0, 1] rfl (I1 := [([(208, 0)], jQc dC dI (ca 4) H_433.size 2 (fun _ => none)), ([(201, 0)], jQc dC dI (ca 4) H_182.size 3 (va_up (va_up (va_up (fun _ => none) 0 (some H_184.size)) 1 (some H_205.size)) 2 (some H_224.size)))]) [1, 2] rfl
  clear hh_547
  have hh_554 := hh_553.addI (jDZ.ie hd_552)
  clear hh_553
  refine j7_putRF hx hb hown hK hh_554 hB hAp hraw_551 hraw_551n hbr0 (C := RX14) (T := TX14) (N := 74) rfl (i := 73) (by decide) (Nat.le_of_ble_eq_true rfl) hly_16_73 rfl hin2 rfl hlk_157 (ty := (.array .int)) (v := .ref H_545.size) (by decide +kernel) rfl rfl dX14_init_414 (fun H_557 locs_557 hraw_557 hr_557 hh_557 => ?_)
  have hraw_557 : va_at (dC, dI) vwCl (r0, .inr (16, [.ref s.heap.size, .int 0, .ref H_7.size, .int 0, .int 0, .ref H_15.size, .int 0, .int 0, .int 0, .ref H_23.size, .int 0, .int 0, .int 0, .ref H_31.size, .ref H_45.size, .int (-1), .int 0, .ref H_62.size, .ref H_72.size, .ref H_82.size, .ref H_92.size, .ref H_102.size, .ref H_112.size, .ref H_127.size, .ref H_142.size, .ref H_152.size, .int 0, .ref H_162.size, .int 0, .int 0, .int 0, .int 0, .int 0, .int 0, .int 0, .int 0, .int 0, .int 0, .ref H_172.size, .int 0, .int 0, .ref H_182.size, .int 0, .ref H_254.size, .int 0, .ref H_265.size, .ref H_276.size, .ref H_291.size, .int 0, .ref H_306.size, .ref H_317.size, .ref H_328.size, .ref H_339.size, .ref H_350.size, .ref H_361.size, .ref H_372.size, .ref H_383.size, .ref H_394.size, .ref H_405.size, .ref H_422.size, .ref H_433.size, .ref H_445.size, .ref H_457.size, .ref H_469.size, .int 0, .int 0, .int 0, .ref H_481.size, .ref H_493.size, .ref H_505.size, .int 0, .ref H_517.size, .ref H_533.size, .ref H_545.size])) H_557 := hraw_557
  have hkp_558 := hkp_550.put hr_557
  clear hh_554
  clear hsz_547 htt_547
  have hsz_559 := hh_557.2.2.2.2.2.1
  have htt_559 := hh_557.2.2.2.2.2.2.1
  refine W.room (fun hrc_559 hrs_559 => ?_)
  refine W.widen (k := LC - s.heap.size) (n := LS - jTot s.heap) (by omega) (by omega) ?_
  rw [hQ]
  have hle_560 : jLe G_547 (va_up G_547 r0 (some (16, 0))) := jLe.typ hraw_551n
  have hg_561 := hle_560 _ _ hg_548
  have hg_562 := hle_560 _ _ hg_549
  have hg_563 := (((((((((((((((((((((((((((((((((((((((((((((hle_9).tr hle_17).tr hle_25).tr hb_382).tr hb_522).tr hle_64).tr hle_74).tr hle_84).tr hle_94).tr hle_104).tr hle_119).tr hle_134).tr hle_144).tr hle_154).tr hle_164).tr hle_174).tr hb_1972).tr hb_2162).tr hb_2352).tr hle_246).tr hle_256).tr hle_267).tr hb_2832).tr hb_2982).tr hle_308).tr hle_319).tr hle_330).tr hle_341).tr hle_352).tr hle_363).tr hle_374).tr hle_385).tr hle_396).tr hb_4122).tr hle_424).tr hle_435).tr hle_447).tr hle_459).tr hle_471).tr hle_483).tr hle_495).tr hle_507).tr hb_5242).tr hle_535).tr hle_547).tr hle_560 _ _ hgn_1
  have hg_564 := ((((((((((((((((((((((((((((((((((((((((((((hle_17).tr hle_25).tr hb_382).tr hb_522).tr hle_64).tr hle_74).tr hle_84).tr hle_94).tr hle_104).tr hle_119).tr hle_134).tr hle_144).tr hle_154).tr hle_164).tr hle_174).tr hb_1972).tr hb_2162).tr hb_2352).tr hle_246).tr hle_256).tr hle_267).tr hb_2832).tr hb_2982).tr hle_308).tr hle_319).tr hle_330).tr hle_341).tr hle_352).tr hle_363).tr hle_374).tr hle_385).tr hle_396).tr hb_4122).tr hle_424).tr hle_435).tr hle_447).tr hle_459).tr hle_471).tr hle_483).tr hle_495).tr hle_507).tr hb_5242).tr hle_535).tr hle_547).tr hle_560 _ _ hgn_9
  have hg_565 := (((((((((((((((((((((((((((((((((((((((((((hle_25).tr hb_382).tr hb_522).tr hle_64).tr hle_74).tr hle_84).tr hle_94).tr hle_104).tr hle_119).tr hle_134).tr hle_144).tr hle_154).tr hle_164).tr hle_174).tr hb_1972).tr hb_2162).tr hb_2352).tr hle_246).tr hle_256).tr hle_267).tr hb_2832).tr hb_2982).tr hle_308).tr hle_319).tr hle_330).tr hle_341).tr hle_352).tr hle_363).tr hle_374).tr hle_385).tr hle_396).tr hb_4122).tr hle_424).tr hle_435).tr hle_447).tr hle_459).tr hle_471).tr hle_483).tr hle_495).tr hle_507).tr hb_5242).tr hle_535).tr hle_547).tr hle_560 _ _ hgn_17
  have hg_566 := ((((((((((((((((((((((((((((((((((((((((((hb_382).tr hb_522).tr hle_64).tr hle_74).tr hle_84).tr hle_94).tr hle_104).tr hle_119).tr hle_134).tr hle_144).tr hle_154).tr hle_164).tr hle_174).tr hb_1972).tr hb_2162).tr hb_2352).tr hle_246).tr hle_256).tr hle_267).tr hb_2832).tr hb_2982).tr hle_308).tr hle_319).tr hle_330).tr hle_341).tr hle_352).tr hle_363).tr hle_374).tr hle_385).tr hle_396).tr hb_4122).tr hle_424).tr hle_435).tr hle_447).tr hle_459).tr hle_471).tr hle_483).tr hle_495).tr hle_507).tr hb_5242).tr hle_535).tr hle_547).tr hle_560 _ _ hgn_25
  have hg_567 := (((((((((((((((((((((((((((((((((((((((((hb_522).tr hle_64).tr hle_74).tr hle_84).tr hle_94).tr hle_104).tr hle_119).tr hle_134).tr hle_144).tr hle_154).tr hle_164).tr hle_174).tr hb_1972).tr hb_2162).tr hb_2352).tr hle_246).tr hle_256).tr hle_267).tr hb_2832).tr hb_2982).tr hle_308).tr hle_319).tr hle_330).tr hle_341).tr hle_352).tr hle_363).tr hle_374).tr hle_385).tr hle_396).tr hb_4122).tr hle_424).tr hle_435).tr hle_447).tr hle_459).tr hle_471).tr hle_483).tr hle_495).tr hle_507).tr hb_5242).tr hle_535).tr hle_547).tr hle_560 _ _ hgc_38
  have hg_568 := ((((((((((((((((((((((((((((((((((((((((hle_64).tr hle_74).tr hle_84).tr hle_94).tr hle_104).tr hle_119).tr hle_134).tr hle_144).tr hle_154).tr hle_164).tr hle_174).tr hb_1972).tr hb_2162).tr hb_2352).tr hle_246).tr hle_256).tr hle_267).tr hb_2832).tr hb_2982).tr hle_308).tr hle_319).tr hle_330).tr hle_341).tr hle_352).tr hle_363).tr hle_374).tr hle_385).tr hle_396).tr hb_4122).tr hle_424).tr hle_435).tr hle_447).tr hle_459).tr hle_471).tr hle_483).tr hle_495).tr hle_507).tr hb_5242).tr hle_535).tr hle_547).tr hle_560 _ _ hgc_52
  have hg_569 := (((((((((((((((((((((((((((((((((((((((hle_74).tr hle_84).tr hle_94).tr hle_104).tr hle_119).tr hle_134).tr hle_144).tr hle_154).tr hle_164).tr hle_174).tr hb_1972).tr hb_2162).tr hb_2352).tr hle_246).tr hle_256).tr hle_267).tr hb_2832).tr hb_2982).tr hle_308).tr hle_319).tr hle_330).tr hle_341).tr hle_352).tr hle_363).tr hle_374).tr hle_385).tr hle_396).tr hb_4122).tr hle_424).tr hle_435).tr hle_447).tr hle_459).tr hle_471).tr hle_483).tr hle_495).tr hle_507).tr hb_5242).tr hle_535).tr hle_547).tr hle_560 _ _ hgn_64
  have hg_570 := ((((((((((((((((((((((((((((((((((((((hle_84).tr hle_94).tr hle_104).tr hle_119).tr hle_134).tr hle_144).tr hle_154).tr hle_164).tr hle_174).tr hb_1972).tr hb_2162).tr hb_2352).tr hle_246).tr hle_256).tr hle_267).tr hb_2832).tr hb_2982).tr hle_308).tr hle_319).tr hle_330).tr hle_341).tr hle_352).tr hle_363).tr hle_374).tr hle_385).tr hle_396).tr hb_4122).tr hle_424).tr hle_435).tr hle_447).tr hle_459).tr hle_471).tr hle_483).tr hle_495).tr hle_507).tr hb_5242).tr hle_535).tr hle_547).tr hle_560 _ _ hgn_74
  have hg_571 := (((((((((((((((((((((((((((((((((((((hle_94).tr hle_104).tr hle_119).tr hle_134).tr hle_144).tr hle_154).tr hle_164).tr hle_174).tr hb_1972).tr hb_2162).tr hb_2352).tr hle_246).tr hle_256).tr hle_267).tr hb_2832).tr hb_2982).tr hle_308).tr hle_319).tr hle_330).tr hle_341).tr hle_352).tr hle_363).tr hle_374).tr hle_385).tr hle_396).tr hb_4122).tr hle_424).tr hle_435).tr hle_447).tr hle_459).tr hle_471).tr hle_483).tr hle_495).tr hle_507).tr hb_5242).tr hle_535).tr hle_547).tr hle_560 _ _ hgn_84
  have hg_572 := ((((((((((((((((((((((((((((((((((((hle_104).tr hle_119).tr hle_134).tr hle_144).tr hle_154).tr hle_164).tr hle_174).tr hb_1972).tr hb_2162).tr hb_2352).tr hle_246).tr hle_256).tr hle_267).tr hb_2832).tr hb_2982).tr hle_308).tr hle_319).tr hle_330).tr hle_341).tr hle_352).tr hle_363).tr hle_374).tr hle_385).tr hle_396).tr hb_4122).tr hle_424).tr hle_435).tr hle_447).tr hle_459).tr hle_471).tr hle_483).tr hle_495).tr hle_507).tr hb_5242).tr hle_535).tr hle_547).tr hle_560 _ _ hgn_94
  have hg_573 := (((((((((((((((((((((((((((((((((((hle_119).tr hle_134).tr hle_144).tr hle_154).tr hle_164).tr hle_174).tr hb_1972).tr hb_2162).tr hb_2352).tr hle_246).tr hle_256).tr hle_267).tr hb_2832).tr hb_2982).tr hle_308).tr hle_319).tr hle_330).tr hle_341).tr hle_352).tr hle_363).tr hle_374).tr hle_385).tr hle_396).tr hb_4122).tr hle_424).tr hle_435).tr hle_447).tr hle_459).tr hle_471).tr hle_483).tr hle_495).tr hle_507).tr hb_5242).tr hle_535).tr hle_547).tr hle_560 _ _ hgn_104
  have hg_574 := ((((((((((((((((((((((((((((((((((hle_134).tr hle_144).tr hle_154).tr hle_164).tr hle_174).tr hb_1972).tr hb_2162).tr hb_2352).tr hle_246).tr hle_256).tr hle_267).tr hb_2832).tr hb_2982).tr hle_308).tr hle_319).tr hle_330).tr hle_341).tr hle_352).tr hle_363).tr hle_374).tr hle_385).tr hle_396).tr hb_4122).tr hle_424).tr hle_435).tr hle_447).tr hle_459).tr hle_471).tr hle_483).tr hle_495).tr hle_507).tr hb_5242).tr hle_535).tr hle_547).tr hle_560 _ _ hgn_119
  have hg_575 := (((((((((((((((((((((((((((((((((hle_144).tr hle_154).tr hle_164).tr hle_174).tr hb_1972).tr hb_2162).tr hb_2352).tr hle_246).tr hle_256).tr hle_267).tr hb_2832).tr hb_2982).tr hle_308).tr hle_319).tr hle_330).tr hle_341).tr hle_352).tr hle_363).tr hle_374).tr hle_385).tr hle_396).tr hb_4122).tr hle_424).tr hle_435).tr hle_447).tr hle_459).tr hle_471).tr hle_483).tr hle_495).tr hle_507).tr hb_5242).tr hle_535).tr hle_547).tr hle_560 _ _ hgn_134
  have hg_576 := ((((((((((((((((((((((((((((((((hle_154).tr hle_164).tr hle_174).tr hb_1972).tr hb_2162).tr hb_2352).tr hle_246).tr hle_256).tr hle_267).tr hb_2832).tr hb_2982).tr hle_308).tr hle_319).tr hle_330).tr hle_341).tr hle_352).tr hle_363).tr hle_374).tr hle_385).tr hle_396).tr hb_4122).tr hle_424).tr hle_435).tr hle_447).tr hle_459).tr hle_471).tr hle_483).tr hle_495).tr hle_507).tr hb_5242).tr hle_535).tr hle_547).tr hle_560 _ _ hgn_144
  have hg_577 := (((((((((((((((((((((((((((((((hle_164).tr hle_174).tr hb_1972).tr hb_2162).tr hb_2352).tr hle_246).tr hle_256).tr hle_267).tr hb_2832).tr hb_2982).tr hle_308).tr hle_319).tr hle_330).tr hle_341).tr hle_352).tr hle_363).tr hle_374).tr hle_385).tr hle_396).tr hb_4122).tr hle_424).tr hle_435).tr hle_447).tr hle_459).tr hle_471).tr hle_483).tr hle_495).tr hle_507).tr hb_5242).tr hle_535).tr hle_547).tr hle_560 _ _ hgn_154
  have hg_578 := ((((((((((((((((((((((((((((((hle_174).tr hb_1972).tr hb_2162).tr hb_2352).tr hle_246).tr hle_256).tr hle_267).tr hb_2832).tr hb_2982).tr hle_308).tr hle_319).tr hle_330).tr hle_341).tr hle_352).tr hle_363).tr hle_374).tr hle_385).tr hle_396).tr hb_4122).tr hle_424).tr hle_435).tr hle_447).tr hle_459).tr hle_471).tr hle_483).tr hle_495).tr hle_507).tr hb_5242).tr hle_535).tr hle_547).tr hle_560 _ _ hgn_164
  have hg_579 := (((((((((((((((((((((((((((((hb_1972).tr hb_2162).tr hb_2352).tr hle_246).tr hle_256).tr hle_267).tr hb_2832).tr hb_2982).tr hle_308).tr hle_319).tr hle_330).tr hle_341).tr hle_352).tr hle_363).tr hle_374).tr hle_385).tr hle_396).tr hb_4122).tr hle_424).tr hle_435).tr hle_447).tr hle_459).tr hle_471).tr hle_483).tr hle_495).tr hle_507).tr hb_5242).tr hle_535).tr hle_547).tr hle_560 _ _ hgn_174
  have hg_580 := (((((((((((((((((((((((((hle_256).tr hle_267).tr hb_2832).tr hb_2982).tr hle_308).tr hle_319).tr hle_330).tr hle_341).tr hle_352).tr hle_363).tr hle_374).tr hle_385).tr hle_396).tr hb_4122).tr hle_424).tr hle_435).tr hle_447).tr hle_459).tr hle_471).tr hle_483).tr hle_495).tr hle_507).tr hb_5242).tr hle_535).tr hle_547).tr hle_560 _ _ hgn_246
  have hg_581 := ((((((((((((((((((((((((hle_267).tr hb_2832).tr hb_2982).tr hle_308).tr hle_319).tr hle_330).tr hle_341).tr hle_352).tr hle_363).tr hle_374).tr hle_385).tr hle_396).tr hb_4122).tr hle_424).tr hle_435).tr hle_447).tr hle_459).tr hle_471).tr hle_483).tr hle_495).tr hle_507).tr hb_5242).tr hle_535).tr hle_547).tr hle_560 _ _ hgn_256
  have hg_582 := (((((((((((((((((((((((hb_2832).tr hb_2982).tr hle_308).tr hle_319).tr hle_330).tr hle_341).tr hle_352).tr hle_363).tr hle_374).tr hle_385).tr hle_396).tr hb_4122).tr hle_424).tr hle_435).tr hle_447).tr hle_459).tr hle_471).tr hle_483).tr hle_495).tr hle_507).tr hb_5242).tr hle_535).tr hle_547).tr hle_560 _ _ hgn_267
  have hg_583 := ((((((((((((((((((((((hb_2982).tr hle_308).tr hle_319).tr hle_330).tr hle_341).tr hle_352).tr hle_363).tr hle_374).tr hle_385).tr hle_396).tr hb_4122).tr hle_424).tr hle_435).tr hle_447).tr hle_459).tr hle_471).tr hle_483).tr hle_495).tr hle_507).tr hb_5242).tr hle_535).tr hle_547).tr hle_560 _ _ hgc_283
  have hg_584 := (((((((((((((((((((((hle_308).tr hle_319).tr hle_330).tr hle_341).tr hle_352).tr hle_363).tr hle_374).tr hle_385).tr hle_396).tr hb_4122).tr hle_424).tr hle_435).tr hle_447).tr hle_459).tr hle_471).tr hle_483).tr hle_495).tr hle_507).tr hb_5242).tr hle_535).tr hle_547).tr hle_560 _ _ hgc_298
  have hg_585 := ((((((((((((((((((((hle_319).tr hle_330).tr hle_341).tr hle_352).tr hle_363).tr hle_374).tr hle_385).tr hle_396).tr hb_4122).tr hle_424).tr hle_435).tr hle_447).tr hle_459).tr hle_471).tr hle_483).tr hle_495).tr hle_507).tr hb_5242).tr hle_535).tr hle_547).tr hle_560 _ _ hgn_308
  have hg_586 := (((((((((((((((((((hle_330).tr hle_341).tr hle_352).tr hle_363).tr hle_374).tr hle_385).tr hle_396).tr hb_4122).tr hle_424).tr hle_435).tr hle_447).tr hle_459).tr hle_471).tr hle_483).tr hle_495).tr hle_507).tr hb_5242).tr hle_535).tr hle_547).tr hle_560 _ _ hgn_319
  have hg_587 := ((((((((((((((((((hle_341).tr hle_352).tr hle_363).tr hle_374).tr hle_385).tr hle_396).tr hb_4122).tr hle_424).tr hle_435).tr hle_447).tr hle_459).tr hle_471).tr hle_483).tr hle_495).tr hle_507).tr hb_5242).tr hle_535).tr hle_547).tr hle_560 _ _ hgn_330
  have hg_588 := (((((((((((((((((hle_352).tr hle_363).tr hle_374).tr hle_385).tr hle_396).tr hb_4122).tr hle_424).tr hle_435).tr hle_447).tr hle_459).tr hle_471).tr hle_483).tr hle_495).tr hle_507).tr hb_5242).tr hle_535).tr hle_547).tr hle_560 _ _ hgn_341
  have hg_589 := ((((((((((((((((hle_363).tr hle_374).tr hle_385).tr hle_396).tr hb_4122).tr hle_424).tr hle_435).tr hle_447).tr hle_459).tr hle_471).tr hle_483).tr hle_495).tr hle_507).tr hb_5242).tr hle_535).tr hle_547).tr hle_560 _ _ hgn_352
  have hg_590 := (((((((((((((((hle_374).tr hle_385).tr hle_396).tr hb_4122).tr hle_424).tr hle_435).tr hle_447).tr hle_459).tr hle_471).tr hle_483).tr hle_495).tr hle_507).tr hb_5242).tr hle_535).tr hle_547).tr hle_560 _ _ hgn_363
  have hg_591 := ((((((((((((((hle_385).tr hle_396).tr hb_4122).tr hle_424).tr hle_435).tr hle_447).tr hle_459).tr hle_471).tr hle_483).tr hle_495).tr hle_507).tr hb_5242).tr hle_535).tr hle_547).tr hle_560 _ _ hgn_374
  have hg_592 := (((((((((((((hle_396).tr hb_4122).tr hle_424).tr hle_435).tr hle_447).tr hle_459).tr hle_471).tr hle_483).tr hle_495).tr hle_507).tr hb_5242).tr hle_535).tr hle_547).tr hle_560 _ _ hgn_385
  have hg_593 := ((((((((((((hb_4122).tr hle_424).tr hle_435).tr hle_447).tr hle_459).tr hle_471).tr hle_483).tr hle_495).tr hle_507).tr hb_5242).tr hle_535).tr hle_547).tr hle_560 _ _ hgn_396
  have hg_594 := (((((((((((hle_424).tr hle_435).tr hle_447).tr hle_459).tr hle_471).tr hle_483).tr hle_495).tr hle_507).tr hb_5242).tr hle_535).tr hle_547).tr hle_560 _ _ hgc_412
  have hg_595 := ((((((((((hle_435).tr hle_447).tr hle_459).tr hle_471).tr hle_483).tr hle_495).tr hle_507).tr hb_5242).tr hle_535).tr hle_547).tr hle_560 _ _ hgn_424
  have hg_596 := (((((((((hle_447).tr hle_459).tr hle_471).tr hle_483).tr hle_495).tr hle_507).tr hb_5242).tr hle_535).tr hle_547).tr hle_560 _ _ hgn_435
  have hg_597 := ((((((((hle_459).tr hle_471).tr hle_483).tr hle_495).tr hle_507).tr hb_5242).tr hle_535).tr hle_547).tr hle_560 _ _ hgn_447
  have hg_598 := (((((((hle_471).tr hle_483).tr hle_495).tr hle_507).tr hb_5242).tr hle_535).tr hle_547).tr hle_560 _ _ hgn_459
  have hg_599 := ((((((hle_483).tr hle_495).tr hle_507).tr hb_5242).tr hle_535).tr hle_547).tr hle_560 _ _ hgn_471
  have hg_600 := (((((hle_495).tr hle_507).tr hb_5242).tr hle_535).tr hle_547).tr hle_560 _ _ hgn_483
  have hg_601 := ((((hle_507).tr hb_5242).tr hle_535).tr hle_547).tr hle_560 _ _ hgn_495
  have hg_602 := (((hb_5242).tr hle_535).tr hle_547).tr hle_560 _ _ hgn_507
  have hg_603 := ((hle_535).tr hle_547).tr hle_560 _ _ hgc_524
  have hg_604 := (hle_547).tr hle_560 _ _ hgn_535
  have hg_605 := (jLe.rf).tr hle_560 _ _ hgn_547
  have hfa_560 : jRf (va_up G_547 r0 (some (16, 0))) 110 4000 (.ref s.heap.size) ∧ jI 0 4000 (.int 0) ∧ jRf (va_up G_547 r0 (some (16, 0))) 101 20000 (.ref H_7.size) ∧ jI 0 20000 (.int 0) ∧ jIa (.int 0) ∧ jRf (va_up G_547 r0 (some (16, 0))) 101 100000 (.ref H_15.size) ∧ jI 0 100000 (.int 0) ∧ jZb (.int 0) ∧ jIa (.int 0) ∧ jRf (va_up G_547 r0 (some (16, 0))) 110 3300 (.ref H_23.size) ∧ jIa (.int 0) ∧ jIa (.int 0) ∧ jIa (.int 0) ∧ jRf (va_up G_547 r0 (some (16, 0))) 0 0 (.ref H_31.size) ∧ jRf (va_up G_547 r0 (some (16, 0))) 0 0 (.ref H_45.size) ∧ jI (-1) 3000 (.int (-1)) ∧ jIa (.int 0) ∧ jRf (va_up G_547 r0 (some (16, 0))) 117 3100 (.ref H_62.size) ∧ jRf (va_up G_547 r0 (some (16, 0))) 118 3100 (.ref H_72.size) ∧ jRf (va_up G_547 r0 (some (16, 0))) 119 3100 (.ref H_82.size) ∧ jRf (va_up G_547 r0 (some (16, 0))) 120 3100 (.ref H_92.size) ∧ jRf (va_up G_547 r0 (some (16, 0))) 121 3100 (.ref H_102.size) ∧ jRf (va_up G_547 r0 (some (16, 0))) 122 3100 (.ref H_112.size) ∧ jRf (va_up G_547 r0 (some (16, 0))) 123 3100 (.ref H_127.size) ∧ jRf (va_up G_547 r0 (some (16, 0))) 124 3100 (.ref H_142.size) ∧ jRf (va_up G_547 r0 (some (16, 0))) 125 3100 (.ref H_152.size) ∧ jI 0 3100 (.int 0) ∧ jRf (va_up G_547 r0 (some (16, 0))) 127 3300 (.ref H_162.size) ∧ jI 0 3300 (.int 0) ∧ jI 0 100000 (.int 0) ∧ jI 0 3000 (.int 0) ∧ jZb (.int 0) ∧ jI 0 3300 (.int 0) ∧ jIa (.int 0) ∧ jZb (.int 0) ∧ jZb (.int 0) ∧ jZb (.int 0) ∧ jIa (.int 0) ∧ jRf (va_up G_547 r0 (some (16, 0))) 101 20 (.ref H_172.size) ∧ jI (-3300) 20 (.int 0) ∧ jZb (.int 0) ∧ jRf (va_up G_547 r0 (some (16, 0))) 201 3 (.ref H_182.size) ∧ jI 0 3 (.int 0) ∧ jRf (va_up G_547 r0 (some (16, 0))) 101 3100 (.ref H_254.size) ∧ jI 0 1500 (.int 0) ∧ jRf (va_up G_547 r0 (some (16, 0))) 101 1500 (.ref H_265.size) ∧ jRf (va_up G_547 r0 (some (16, 0))) 14 0 (.ref H_276.size) ∧ jRf (va_up G_547 r0 (some (16, 0))) 14 0 (.ref H_291.size) ∧ jI 0 12 (.int 0) ∧ jRf (va_up G_547 r0 (some (16, 0))) 202 12 (.ref H_306.size) ∧ jRf (va_up G_547 r0 (some (16, 0))) 103 12 (.ref H_317.size) ∧ jRf (va_up G_547 r0 (some (16, 0))) 206 12 (.ref H_328.size) ∧ jRf (va_up G_547 r0 (some (16, 0))) 103 12 (.ref H_339.size) ∧ jRf (va_up G_547 r0 (some (16, 0))) 101 12 (.ref H_350.size) ∧ jRf (va_up G_547 r0 (some (16, 0))) 101 240 (.ref H_361.size) ∧ jRf (va_up G_547 r0 (some (16, 0))) 203 12 (.ref H_372.size) ∧ jRf (va_up G_547 r0 (some (16, 0))) 101 37200 (.ref H_383.size) ∧ jRf (va_up G_547 r0 (some (16, 0))) 204 12 (.ref H_394.size) ∧ jRf (va_up G_547 r0 (some (16, 0))) 15 0 (.ref H_405.size) ∧ jRf (va_up G_547 r0 (some (16, 0))) 101 3100 (.ref H_422.size) ∧ jRf (va_up G_547 r0 (some (16, 0))) 208 2 (.ref H_433.size) ∧ jRf (va_up G_547 r0 (some (16, 0))) 207 2 (.ref H_445.size) ∧ jRf (va_up G_547 r0 (some (16, 0))) 101 2 (.ref H_457.size) ∧ jRf (va_up G_547 r0 (some (16, 0))) 103 2 (.ref H_469.size) ∧ jIa (.int 0) ∧ jIa (.int 0) ∧ jI 0 24 (.int 0) ∧ jRf (va_up G_547 r0 (some (16, 0))) 101 38400 (.ref H_481.size) ∧ jRf (va_up G_547 r0 (some (16, 0))) 205 24 (.ref H_493.size) ∧ jRf (va_up G_547 r0 (some (16, 0))) 101 1600 (.ref H_505.size) ∧ jI 0 1600 (.int 0) ∧ jRf (va_up G_547 r0 (some (16, 0))) 14 0 (.ref H_517.size) ∧ jRf (va_up G_547 r0 (some (16, 0))) 101 40 (.ref H_533.size) ∧ jRf (va_up G_547 r0 (some (16, 0))) 101 40 (.ref H_545.size) ∧ True := ⟨⟨_, rfl, hg_563⟩, ⟨_, rfl, by omega, by omega⟩, ⟨_, rfl, hg_564⟩, ⟨_, rfl, by omega, by omega⟩, ⟨_, rfl⟩, ⟨_, rfl, hg_565⟩, ⟨_, rfl, by omega, by omega⟩, ⟨_, rfl, Or.inl rfl⟩, ⟨_, rfl⟩, ⟨_, rfl, hg_566⟩, ⟨_, rfl⟩, ⟨_, rfl⟩, ⟨_, rfl⟩, ⟨_, rfl, hg_567⟩, ⟨_, rfl, hg_568⟩, ⟨_, rfl, by omega, by omega⟩, ⟨_, rfl⟩, ⟨_, rfl, hg_569⟩, ⟨_, rfl, hg_570⟩, ⟨_, rfl, hg_571⟩, ⟨_, rfl, hg_572⟩, ⟨_, rfl, hg_573⟩, ⟨_, rfl, hg_574⟩, ⟨_, rfl, hg_575⟩, ⟨_, rfl, hg_576⟩, ⟨_, rfl, hg_577⟩, ⟨_, rfl, by omega, by omega⟩, ⟨_, rfl, hg_578⟩, ⟨_, rfl, by omega, by omega⟩, ⟨_, rfl, by omega, by omega⟩, ⟨_, rfl, by omega, by omega⟩, ⟨_, rfl, Or.inl rfl⟩, ⟨_, rfl, by omega, by omega⟩, ⟨_, rfl⟩, ⟨_, rfl, Or.inl rfl⟩, ⟨_, rfl, Or.inl rfl⟩, ⟨_, rfl, Or.inl rfl⟩, ⟨_, rfl⟩, ⟨_, rfl, hg_579⟩, ⟨_, rfl, by omega, by omega⟩, ⟨_, rfl, Or.inl rfl⟩, ⟨_, rfl, hg_580⟩, ⟨_, rfl, by omega, by omega⟩, ⟨_, rfl, hg_581⟩, ⟨_, rfl, by omega, by omega⟩, ⟨_, rfl, hg_582⟩, ⟨_, rfl, hg_583⟩, ⟨_, rfl, hg_584⟩, ⟨_, rfl, by omega, by omega⟩, ⟨_, rfl, hg_585⟩, ⟨_, rfl, hg_586⟩, ⟨_, rfl, hg_587⟩, ⟨_, rfl, hg_588⟩, ⟨_, rfl, hg_589⟩, ⟨_, rfl, hg_590⟩, ⟨_, rfl, hg_591⟩, ⟨_, rfl, hg_592⟩, ⟨_, rfl, hg_593⟩, ⟨_, rfl, hg_594⟩, ⟨_, rfl, hg_595⟩, ⟨_, rfl, hg_596⟩, ⟨_, rfl, hg_597⟩, ⟨_, rfl, hg_598⟩, ⟨_, rfl, hg_599⟩, ⟨_, rfl⟩, ⟨_, rfl⟩, ⟨_, rfl, by omega, by omega⟩, ⟨_, rfl, hg_600⟩, ⟨_, rfl, hg_601⟩, ⟨_, rfl, hg_602⟩, ⟨_, rfl, by omega, by omega⟩, ⟨_, rfl, hg_603⟩, ⟨_, rfl, hg_604⟩, ⟨_, rfl, hg_605⟩, trivial⟩
  have hh_560 := hh_557.typ (k := 16) (n := 0) hB hraw_551n hbr0 hraw_557.lt (jOb.of (C := RX14) (T := TX14) (N := 74) (F := F16) hB16 rfl hraw_557 (show jFx (F16 0 (va_up G_547 r0 (some (16, 0)))) [.ref s.heap.size, .int 0, .ref H_7.size, .int 0, .int 0, .ref H_15.size, .int 0, .int 0, .int 0, .ref H_23.size, .int 0, .int 0, .int 0, .ref H_31.size, .ref H_45.size, .int (-1), .int 0, .ref H_62.size, .ref H_72.size, .ref H_82.size, .ref H_92.size, .ref H_102.size, .ref H_112.size, .ref H_127.size, .ref H_142.size, .ref H_152.size, .int 0, .ref H_162.size, .int 0, .int 0, .int 0, .int 0, .int 0, .int 0, .int 0, .int 0, .int 0, .int 0, .ref H_172.size, .int 0, .int 0, .ref H_182.size, .int 0, .ref H_254.size, .int 0, .ref H_265.size, .ref H_276.size, .ref H_291.size, .int 0, .ref H_306.size, .ref H_317.size, .ref H_328.size, .ref H_339.size, .ref H_350.size, .ref H_361.size, .ref H_372.size, .ref H_383.size, .ref H_394.size, .ref H_405.size, .ref H_422.size, .ref H_433.size, .ref H_445.size, .ref H_457.size, .ref H_469.size, .int 0, .int 0, .int 0, .ref H_481.size, .ref H_493.size, .ref H_505.size, .int 0, .ref H_517.size, .ref H_533.size, .ref H_545.size] from hfa_560))
  have hgn_560 : (va_up G_547 r0 (some (16, 0))) r0 = some (16, 0) := jUp_self
  have hN_560 : (jNk [1, 2, 3, 4, 5, 6, 7, 8, 9, 10, 11, 12, 13]) G_547 (va_up G_547 r0 (some (16, 0))) := jNk.new (by decide)
  have hNn_560 : (jNk [1, 2, 3, 4, 5, 6, 7, 8, 9, 10, 11, 12, 13]) G0 (va_up G_547 r0 (some (16, 0))) := (hNn_547).tr hN_560
  have hkp_606 := hkp_558.typ (t := some (16, 0))
  have hg_607 := ((((((((((((((((((((((((((((((((((((((((((hb_522).tr hle_64).tr hle_74).tr hle_84).tr hle_94).tr hle_104).tr hle_119).tr hle_134).tr hle_144).tr hle_154).tr hle_164).tr hle_174).tr hb_1972).tr hb_2162).tr hb_2352).tr hle_246).tr hle_256).tr hle_267).tr hb_2832).tr hb_2982).tr hle_308).tr hle_319).tr hle_330).tr hle_341).tr hle_352).tr hle_363).tr hle_374).tr hle_385).tr hle_396).tr hb_4122).tr hle_424).tr hle_435).tr hle_447).tr hle_459).tr hle_471).tr hle_483).tr hle_495).tr hle_507).tr hb_5242).tr hle_535).tr hle_547).tr hle_560) _ _ hgc_38
  have hg_608 := (((((((((((((((((((((((((((((((((((((((((hle_64).tr hle_74).tr hle_84).tr hle_94).tr hle_104).tr hle_119).tr hle_134).tr hle_144).tr hle_154).tr hle_164).tr hle_174).tr hb_1972).tr hb_2162).tr hb_2352).tr hle_246).tr hle_256).tr hle_267).tr hb_2832).tr hb_2982).tr hle_308).tr hle_319).tr hle_330).tr hle_341).tr hle_352).tr hle_363).tr hle_374).tr hle_385).tr hle_396).tr hb_4122).tr hle_424).tr hle_435).tr hle_447).tr hle_459).tr hle_471).tr hle_483).tr hle_495).tr hle_507).tr hb_5242).tr hle_535).tr hle_547).tr hle_560) _ _ hgc_52
  have hg_609 := ((((((((((((((((((((((((((hle_256).tr hle_267).tr hb_2832).tr hb_2982).tr hle_308).tr hle_319).tr hle_330).tr hle_341).tr hle_352).tr hle_363).tr hle_374).tr hle_385).tr hle_396).tr hb_4122).tr hle_424).tr hle_435).tr hle_447).tr hle_459).tr hle_471).tr hle_483).tr hle_495).tr hle_507).tr hb_5242).tr hle_535).tr hle_547).tr hle_560) _ _ hgn_246
  have hg_610 := ((((((((((hle_447).tr hle_459).tr hle_471).tr hle_483).tr hle_495).tr hle_507).tr hb_5242).tr hle_535).tr hle_547).tr hle_560) _ _ hgn_435
  have hg_611 := (((((((((hle_459).tr hle_471).tr hle_483).tr hle_495).tr hle_507).tr hb_5242).tr hle_535).tr hle_547).tr hle_560) _ _ hgn_447
  have hg_612 := (((((((((((((((((((((((hb_2982).tr hle_308).tr hle_319).tr hle_330).tr hle_341).tr hle_352).tr hle_363).tr hle_374).tr hle_385).tr hle_396).tr hb_4122).tr hle_424).tr hle_435).tr hle_447).tr hle_459).tr hle_471).tr hle_483).tr hle_495).tr hle_507).tr hb_5242).tr hle_535).tr hle_547).tr hle_560) _ _ hgc_283
  have hg_613 := ((((((((((((((((((((((hle_308).tr hle_319).tr hle_330).tr hle_341).tr hle_352).tr hle_363).tr hle_374).tr hle_385).tr hle_396).tr hb_4122).tr hle_424).tr hle_435).tr hle_447).tr hle_459).tr hle_471).tr hle_483).tr hle_495).tr hle_507).tr hb_5242).tr hle_535).tr hle_547).tr hle_560) _ _ hgc_298
  have hg_614 := (((hle_535).tr hle_547).tr hle_560) _ _ hgc_524
  have hg_615 := (((((((((((((((((((((((((((((((((((hle_134).tr hle_144).tr hle_154).tr hle_164).tr hle_174).tr hb_1972).tr hb_2162).tr hb_2352).tr hle_246).tr hle_256).tr hle_267).tr hb_2832).tr hb_2982).tr hle_308).tr hle_319).tr hle_330).tr hle_341).tr hle_352).tr hle_363).tr hle_374).tr hle_385).tr hle_396).tr hb_4122).tr hle_424).tr hle_435).tr hle_447).tr hle_459).tr hle_471).tr hle_483).tr hle_495).tr hle_507).tr hb_5242).tr hle_535).tr hle_547).tr hle_560) _ _ hgn_119
  have hg_616 := ((((((((((((((((((((((((((((((((((hle_144).tr hle_154).tr hle_164).tr hle_174).tr hb_1972).tr hb_2162).tr hb_2352).tr hle_246).tr hle_256).tr hle_267).tr hb_2832).tr hb_2982).tr hle_308).tr hle_319).tr hle_330).tr hle_341).tr hle_352).tr hle_363).tr hle_374).tr hle_385).tr hle_396).tr hb_4122).tr hle_424).tr hle_435).tr hle_447).tr hle_459).tr hle_471).tr hle_483).tr hle_495).tr hle_507).tr hb_5242).tr hle_535).tr hle_547).tr hle_560) _ _ hgn_134
  have hh_617 := hh_560.more (P1 := [(r0, 16, 1, .int 0), (r0, 16, 12, .int 0), (r0, 16, 11, .int 0), (r0, 16, 15, .int (-1)), (r0, 16, 16, .int 0), (r0, 16, 7, .int 0), (r0, 16, 13, .ref H_31.size), (r0, 16, 14, .ref H_45.size), (r0, 16, 41, .ref H_182.size), (r0, 16, 42, .int 0), (r0, 16, 60, .ref H_433.size), (r0, 16, 61, .ref H_445.size), (r0, 16, 46, .ref H_276.size), (r0, 16, 47, .ref H_291.size), (r0, 16, 71, .ref H_517.size), (r0, 16, 22, .ref H_112.size), (r0, 16, 23, .ref H_127.size)]) (jP.cons hgn_560 (jf.raw (C := RX14) (T := TX14) (N := 74) rfl hraw_557 (i := 1) (by decide)) (jP.cons hgn_560 (jf.raw (C := RX14) (T := TX14) (N := 74) rfl hraw_557 (i := 12) (by decide)) (jP.cons hgn_560 (jf.raw (C := RX14) (T := TX14) (N := 74) rfl hraw_557 (i := 11) (by decide)) (jP.cons hgn_560 (jf.raw (C := RX14) (T := TX14) (N := 74) rfl hraw_557 (i := 15) (by decide)) (jP.cons hgn_560 (jf.raw (C := RX14) (T := TX14) (N := 74) rfl hraw_557 (i := 16) (by decide)) (jP.cons hgn_560 (jf.raw (C := RX14) (T := TX14) (N := 74) rfl hraw_557 (i := 7) (by decide)) (jP.cons hgn_560 (jf.raw (C := RX14) (T := TX14) (N := 74) rfl hraw_557 (i := 13) (by decide)) (jP.cons hgn_560 (jf.raw (C := RX14) (T := TX14) (N := 74) rfl hraw_557 (i := 14) (by decide)) (jP.cons hgn_560 (jf.raw (C := RX14) (T := TX14) (N := 74) rfl hraw_557 (i := 41) (by decide)) (jP.cons hgn_560 (jf.raw (C := RX14) (T := TX14) (N := 74) rfl hraw_557 (i := 42) (by decide)) (jP.cons hgn_560 (jf.raw (C := RX14) (T := TX14) (N := 74) rfl hraw_557 (i := 60) (by decide)) (jP.cons hgn_560 (jf.raw (C := RX14) (T := TX14) (N := 74) rfl hraw_557 (i := 61) (by decide)) (jP.cons hgn_560 (jf.raw (C := RX14) (T := TX14) (N := 74) rfl hraw_557 (i := 46) (by decide)) (jP.cons hgn_560 (jf.raw (C := RX14) (T := TX14) (N := 74) rfl hraw_557 (i := 47) (by decide)) (jP.cons hgn_560 (jf.raw (C := RX14) (T := TX14) (N := 74) rfl hraw_557 (i := 71) (by decide)) (jP.cons hgn_560 (jf.raw (C := RX14) (T := TX14) (N := 74) rfl hraw_557 (i := 22) (by decide)) (jP.cons hgn_560 (jf.raw (C := RX14) (T := TX14) (N := 74) rfl hraw_557 (i := 23) (by decide)) jP.nil)))))))))))))))))
  have hM_560 : jNk [11] G_547 (va_up G_547 r0 (some (16, 0))) := jNk.new (by decide)
  have hZ_560 : jN14 G_547 (va_up G_547 r0 (some (16, 0))) := jN14.new (by decide)
  have hd_618 := jDZ.grow (hh_617.iv 0 rfl) hle_560 hZ_560
  have hh_619 := hh_617.sub (L1 := [(r0, 16, 1, .int 0), (r0, 16, 12, .int 0), (r0, 16, 11, .int 0), (r0, 16, 15, .int (-1)), (r0, 16, 16, .int 0), (r0, 16, 7, .int 0), (r0, 16, 13, .ref H_31.size), (r0, 16, 14, .ref H_45.size), (r0, 16, 41, .ref H_182.size), (r0, 16, 42, .int 0), (r0, 16, 60, .ref H_433.size), (r0, 16, 61, .ref H_445.size), (r0, 16, 46, .ref H_276.size), (r0, 16, 47, .ref H_291.size), (r0, 16, 71, .ref H_517.size), (r0, 16, 22, .ref H_112.size), (r0, 16, 23, .ref H_127.size), (H_45.size, 0, 3, .int qc_52), (H_45.size, 0, 0, .ref xa_52), (H_31.size, 0, 3, .int qc_38), (H_31.size, 0, 0, .ref xa_38)]) [0, 1, 2, 3, 4, 5, 6, 7, 8, 9, 10, 11, 12, 13, 14, 15, 16, 17, 18, 19, 20] rfl (M1 := [(H_127.size, 123, 3100, ca 1, (fun _ => 0)), (H_112.size, 122, 3100, ca 1, (fun _ => 0))]) [0, 1] rfl (I1 := [([(208, 0)], jQc dC dI (ca 4) H_433.size 2 (fun _ => none)), ([(201, 0)], jQc dC dI (ca 4) H_182.size 3 (va_up (va_up (va_up (fun _ => none) 0 (some H_184.size)) 1 (some H_205.size)) 2 (some H_224.size)))]) [1, 2] rfl
  clear hh_617
  have hh_620 := hh_619.addI (jDZ.ie hd_618)
  clear hh_619
  obtain ⟨fs9, hh_623⟩ := hh_620.cpin hB207 (by decide) (by decide) hg_611
  have hz9 := hh_623.iv 0 rfl
  have hdy9 := jDZ.dy (ca := ca) hz9 hh_623.2.1 hB190 hB191
  have hvl9 := jDZ.vl hz9
  have hh_624 := hh_623.addI (jVl.ie hvl9)
  clear hh_623
  have hh_625 := hh_624.addI (jDY.ie hdy9)
  clear hh_624
  have hft9 : jFT dC dI ca (va_up G_547 r0 (some (16, 0))) H_112.size H_127.size H_557 := ⟨fun _ => 0, fun _ => 0, hh_625.2.2.2.2.2.2.2.1.sub (L1 := [(H_112.size, 122, 3100, ca 1, (fun _ => 0)), (H_127.size, 123, 3100, ca 1, (fun _ => 0))]) [2, 1] rfl, fun i _ _ => Int.le_refl _⟩
  have hh_626 := hh_625.addI (jFT.ie hft9 hg_615 hg_616)
  clear hh_625
  exact W.vret hx hb hr (fun t ht hW => ⟨⟨(0, 0, 0, (-1), 0, 0, qc_38, qc_52, H_31.size, 0, H_45.size, 0, xa_38, m_xa_38, xa_52, m_xa_52, (va_up G_547 r0 (some (16, 0)))), rfl, by (try dsimp only); exact ⟨(by first | omega | rfl | assumption | fail), (by first | omega | rfl | assumption | fail), (by first | omega | rfl | assumption | fail), (by first | omega | rfl | assumption | fail), (by first | omega | rfl | assumption | fail), (by first | omega | rfl | assumption | fail), (by first | omega | rfl | assumption | fail), (by first | omega | rfl | assumption | fail), (by first | omega | rfl | assumption | fail), (by first | omega | rfl | assumption | fail), (by first | omega | rfl | assumption | fail), (by first | omega | rfl | assumption | fail)⟩, ⟨hh_626.ra (by first | omega | (simp only; omega)) (by first | omega | (simp only; omega)) (M1 := [(r0, 16, 1, .int 0), (r0, 16, 12, .int 0), (r0, 16, 11, .int 0), (r0, 16, 15, .int (-1)), (r0, 16, 16, .int 0), (r0, 16, 7, .int 0), (H_31.size, 0, 3, .int qc_38), (H_45.size, 0, 3, .int qc_52), (r0, 16, 13, .ref H_31.size), (r0, 16, 14, .ref H_45.size), (H_31.size, 0, 0, .ref xa_38), (H_45.size, 0, 0, .ref xa_52)]) [0, 1, 2, 3, 4, 5, 19, 17, 6, 7, 20, 18] rfl ht, hg_607, hg_608, hg_562, hg_561, hNn_560, hgn_560, by rw [ht]; exact hkp_606, by rw [ht]; exact hh_626.2.2.2.2.2.2.2.2.sub (L1 := [(jFz9, jDZ dC dI (va_up G_547 r0 (some (16, 0))))]) [3] rfl, by rw [ht]; exact ⟨H_182.size, H_433.size, H_445.size, H_276.size, H_291.size, H_517.size, H_112.size, H_127.size, hg_609, hg_610, hg_611, hg_612, hg_613, hg_614, hg_615, hg_616, ⟨fun _ => 0, fun _ => 0, fs9, (va_up (va_up (va_up (fun _ => none) 0 (some H_184.size)) 1 (some H_205.size)) 2 (some H_224.size)), (fun _ => none), 0, hh_626.2.2.1.sub (L1 := [(r0, 16, 41, .ref H_182.size), (r0, 16, 42, .int 0), (r0, 16, 60, .ref H_433.size), (r0, 16, 61, .ref H_445.size), (r0, 16, 46, .ref H_276.size), (r0, 16, 47, .ref H_291.size), (r0, 16, 71, .ref H_517.size)]) [8, 9, 10, 11, 12, 13, 14] rfl, hh_626.2.2.2.2.2.2.2.1.sub (L1 := [(H_445.size, 207, 2, ca 1, fs9)]) [0] rfl, hh_626.2.2.2.2.2.2.2.2.sub (L1 := [(jFs, jDY dC dI ca (va_up G_547 r0 (some (16, 0))) none (fun _ => 0)), (jF9, jVl dC dI (va_up G_547 r0 (some (16, 0))) 9 (fun _ => 0)), ([(201, 0)], jQc dC dI (ca 4) H_182.size 3 (va_up (va_up (va_up (fun _ => none) 0 (some H_184.size)) 1 (some H_205.size)) 2 (some H_224.size))), ([(208, 0)], jQc dC dI (ca 4) H_433.size 2 (fun _ => none))]) [1, 2, 5, 4] rfl, jPu.zero (a := H_184.size) (b := H_205.size) (c := H_224.size) (by first | rfl | simp [va_up]) (by first | rfl | simp [va_up]) (by first | rfl | simp [va_up]) hlt_d0 hlt_d1 hlt_d2 hlt_ol hlt_nw (fun _ _ => rfl)⟩, hh_626.2.2.1.sub (L1 := [(r0, 16, 22, .ref H_112.size), (r0, 16, 23, .ref H_127.size)]) [15, 16] rfl, hh_626.2.2.2.2.2.2.2.2.sub (L1 := [(jFt, jFT dC dI ca (va_up G_547 r0 (some (16, 0))) H_112.size H_127.size)]) [0] rfl⟩⟩⟩, by rw [ht]; try exact hh_626.1.1, fun q h9 hq => by rw [ht]; try exact hh_626.1.2.1 q h9 hq⟩) hh_626.1.2.2 dX14_init_417
