section
theorem dX13_print_0 : decode cX13_print 0 = .ok (.aload_n 0, 1) := by decide +kernel
theorem dX13_print_1 : decode cX13_print 1 = .ok (.getfield 12, 3) := by decide +kernel
theorem dX13_print_4 : decode cX13_print 4 = .ok (.iload_n 1, 1) := by decide +kernel
theorem dX13_print_5 : decode cX13_print 5 = .ok (.iaload, 1) := by decide +kernel
theorem dX13_print_6 : decode cX13_print 6 = .ok (.istore_n 3, 1) := by decide +kernel
theorem dX13_print_7 : decode cX13_print 7 = .ok (.iload_n 3, 1) := by decide +kernel
theorem dX13_print_8 : decode cX13_print 8 = .ok (.ifCond .ne 55, 3) := by decide +kernel
theorem dX13_print_11 : decode cX13_print 11 = .ok (.aload_n 0, 1) := by decide +kernel
theorem dX13_print_12 : decode cX13_print 12 = .ok (.aload_n 0, 1) := by decide +kernel
theorem dX13_print_13 : decode cX13_print 13 = .ok (.getfield 19, 3) := by decide +kernel
theorem dX13_print_16 : decode cX13_print 16 = .ok (.iload_n 1, 1) := by decide +kernel
theorem dX13_print_17 : decode cX13_print 17 = .ok (.iaload, 1) := by decide +kernel
theorem dX13_print_18 : decode cX13_print 18 = .ok (.aload_n 0, 1) := by decide +kernel
theorem dX13_print_19 : decode cX13_print 19 = .ok (.getfield 12, 3) := by decide +kernel
theorem dX13_print_22 : decode cX13_print 22 = .ok (.aload_n 0, 1) := by decide +kernel
theorem dX13_print_23 : decode cX13_print 23 = .ok (.getfield 19, 3) := by decide +kernel
theorem dX13_print_26 : decode cX13_print 26 = .ok (.iload_n 1, 1) := by decide +kernel
theorem dX13_print_27 : decode cX13_print 27 = .ok (.iaload, 1) := by decide +kernel
theorem dX13_print_28 : decode cX13_print 28 = .ok (.iaload, 1) := by decide +kernel
theorem dX13_print_29 : decode cX13_print 29 = .ok (.ifCond .ne 7, 3) := by decide +kernel
theorem dX13_print_32 : decode cX13_print 32 = .ok (.iconst 1, 1) := by decide +kernel
theorem dX13_print_33 : decode cX13_print 33 = .ok (.goto 4, 3) := by decide +kernel
theorem dX13_print_36 : decode cX13_print 36 = .ok (.iconst 0, 1) := by decide +kernel
theorem dX13_print_37 : decode cX13_print 37 = .ok (.iconst 0, 1) := by decide +kernel
theorem dX13_print_38 : decode cX13_print 38 = .ok (.invokevirtual 394, 3) := by decide +kernel
theorem dX13_print_41 : decode cX13_print 41 = .ok (.aload_n 0, 1) := by decide +kernel
theorem dX13_print_42 : decode cX13_print 42 = .ok (.ldc_w 398, 3) := by decide +kernel
theorem dX13_print_45 : decode cX13_print 45 = .ok (.invokevirtual 400, 3) := by decide +kernel
theorem dX13_print_48 : decode cX13_print 48 = .ok (.aload_n 0, 1) := by decide +kernel
theorem dX13_print_49 : decode cX13_print 49 = .ok (.aload_n 0, 1) := by decide +kernel
theorem dX13_print_50 : decode cX13_print 50 = .ok (.getfield 22, 3) := by decide +kernel
theorem dX13_print_53 : decode cX13_print 53 = .ok (.iload_n 1, 1) := by decide +kernel
theorem dX13_print_54 : decode cX13_print 54 = .ok (.iaload, 1) := by decide +kernel
theorem dX13_print_55 : decode cX13_print 55 = .ok (.iconst 0, 1) := by decide +kernel
theorem dX13_print_56 : decode cX13_print 56 = .ok (.iload_n 2, 1) := by decide +kernel
theorem dX13_print_57 : decode cX13_print 57 = .ok (.invokevirtual 394, 3) := by decide +kernel
theorem dX13_print_60 : decode cX13_print 60 = .ok (.goto 305, 3) := by decide +kernel
theorem dX13_print_63 : decode cX13_print 63 = .ok (.iload_n 3, 1) := by decide +kernel
theorem dX13_print_64 : decode cX13_print 64 = .ok (.iconst 2, 1) := by decide +kernel
theorem dX13_print_65 : decode cX13_print 65 = .ok (.if_icmp .ne 88, 3) := by decide +kernel
theorem dX13_print_68 : decode cX13_print 68 = .ok (.aload_n 0, 1) := by decide +kernel
theorem dX13_print_69 : decode cX13_print 69 = .ok (.aload_n 0, 1) := by decide +kernel
theorem dX13_print_70 : decode cX13_print 70 = .ok (.getfield 19, 3) := by decide +kernel
theorem dX13_print_73 : decode cX13_print 73 = .ok (.iload_n 1, 1) := by decide +kernel
theorem dX13_print_74 : decode cX13_print 74 = .ok (.iaload, 1) := by decide +kernel
theorem dX13_print_75 : decode cX13_print 75 = .ok (.aload_n 0, 1) := by decide +kernel
theorem dX13_print_76 : decode cX13_print 76 = .ok (.getfield 12, 3) := by decide +kernel
theorem dX13_print_79 : decode cX13_print 79 = .ok (.aload_n 0, 1) := by decide +kernel
theorem dX13_print_80 : decode cX13_print 80 = .ok (.getfield 19, 3) := by decide +kernel
theorem dX13_print_83 : decode cX13_print 83 = .ok (.iload_n 1, 1) := by decide +kernel
theorem dX13_print_84 : decode cX13_print 84 = .ok (.iaload, 1) := by decide +kernel
theorem dX13_print_85 : decode cX13_print 85 = .ok (.iaload, 1) := by decide +kernel
theorem dX13_print_86 : decode cX13_print 86 = .ok (.ifCond .eq 18, 3) := by decide +kernel
theorem dX13_print_89 : decode cX13_print 89 = .ok (.aload_n 0, 1) := by decide +kernel
theorem dX13_print_90 : decode cX13_print 90 = .ok (.getfield 12, 3) := by decide +kernel
theorem dX13_print_93 : decode cX13_print 93 = .ok (.aload_n 0, 1) := by decide +kernel
theorem dX13_print_94 : decode cX13_print 94 = .ok (.getfield 19, 3) := by decide +kernel
theorem dX13_print_97 : decode cX13_print 97 = .ok (.iload_n 1, 1) := by decide +kernel
theorem dX13_print_98 : decode cX13_print 98 = .ok (.iaload, 1) := by decide +kernel
theorem dX13_print_99 : decode cX13_print 99 = .ok (.iaload, 1) := by decide +kernel
theorem dX13_print_100 : decode cX13_print 100 = .ok (.iconst 2, 1) := by decide +kernel
theorem dX13_print_101 : decode cX13_print 101 = .ok (.if_icmp .ne 7, 3) := by decide +kernel
theorem dX13_print_104 : decode cX13_print 104 = .ok (.iconst 1, 1) := by decide +kernel
theorem dX13_print_105 : decode cX13_print 105 = .ok (.goto 4, 3) := by decide +kernel
theorem dX13_print_108 : decode cX13_print 108 = .ok (.iconst 0, 1) := by decide +kernel
theorem dX13_print_109 : decode cX13_print 109 = .ok (.iconst 0, 1) := by decide +kernel
theorem dX13_print_110 : decode cX13_print 110 = .ok (.invokevirtual 394, 3) := by decide +kernel
theorem dX13_print_113 : decode cX13_print 113 = .ok (.aload_n 0, 1) := by decide +kernel
theorem dX13_print_114 : decode cX13_print 114 = .ok (.ldc_w 404, 3) := by decide +kernel
theorem dX13_print_117 : decode cX13_print 117 = .ok (.invokevirtual 400, 3) := by decide +kernel
theorem dX13_print_120 : decode cX13_print 120 = .ok (.aload_n 0, 1) := by decide +kernel
theorem dX13_print_121 : decode cX13_print 121 = .ok (.aload_n 0, 1) := by decide +kernel
theorem dX13_print_122 : decode cX13_print 122 = .ok (.getfield 22, 3) := by decide +kernel
theorem dX13_print_125 : decode cX13_print 125 = .ok (.iload_n 1, 1) := by decide +kernel
theorem dX13_print_126 : decode cX13_print 126 = .ok (.iaload, 1) := by decide +kernel
theorem dX13_print_127 : decode cX13_print 127 = .ok (.aload_n 0, 1) := by decide +kernel
theorem dX13_print_128 : decode cX13_print 128 = .ok (.getfield 12, 3) := by decide +kernel
theorem dX13_print_131 : decode cX13_print 131 = .ok (.aload_n 0, 1) := by decide +kernel
theorem dX13_print_132 : decode cX13_print 132 = .ok (.getfield 22, 3) := by decide +kernel
theorem dX13_print_135 : decode cX13_print 135 = .ok (.iload_n 1, 1) := by decide +kernel
theorem dX13_print_136 : decode cX13_print 136 = .ok (.iaload, 1) := by decide +kernel
theorem dX13_print_137 : decode cX13_print 137 = .ok (.iaload, 1) := by decide +kernel
theorem dX13_print_138 : decode cX13_print 138 = .ok (.ifCond .ne 7, 3) := by decide +kernel
theorem dX13_print_141 : decode cX13_print 141 = .ok (.iconst 1, 1) := by decide +kernel
theorem dX13_print_142 : decode cX13_print 142 = .ok (.goto 4, 3) := by decide +kernel
theorem dX13_print_145 : decode cX13_print 145 = .ok (.iconst 0, 1) := by decide +kernel
theorem dX13_print_146 : decode cX13_print 146 = .ok (.iload_n 2, 1) := by decide +kernel
theorem dX13_print_147 : decode cX13_print 147 = .ok (.invokevirtual 394, 3) := by decide +kernel
theorem dX13_print_150 : decode cX13_print 150 = .ok (.goto 215, 3) := by decide +kernel
theorem dX13_print_153 : decode cX13_print 153 = .ok (.iload_n 3, 1) := by decide +kernel
theorem dX13_print_154 : decode cX13_print 154 = .ok (.iconst 1, 1) := by decide +kernel
theorem dX13_print_155 : decode cX13_print 155 = .ok (.if_icmp .ne 89, 3) := by decide +kernel
theorem dX13_print_158 : decode cX13_print 158 = .ok (.aload_n 0, 1) := by decide +kernel
theorem dX13_print_159 : decode cX13_print 159 = .ok (.aload_n 0, 1) := by decide +kernel
theorem dX13_print_160 : decode cX13_print 160 = .ok (.getfield 19, 3) := by decide +kernel
theorem dX13_print_163 : decode cX13_print 163 = .ok (.iload_n 1, 1) := by decide +kernel
theorem dX13_print_164 : decode cX13_print 164 = .ok (.iaload, 1) := by decide +kernel
theorem dX13_print_165 : decode cX13_print 165 = .ok (.aload_n 0, 1) := by decide +kernel
theorem dX13_print_166 : decode cX13_print 166 = .ok (.getfield 12, 3) := by decide +kernel
theorem dX13_print_169 : decode cX13_print 169 = .ok (.aload_n 0, 1) := by decide +kernel
theorem dX13_print_170 : decode cX13_print 170 = .ok (.getfield 19, 3) := by decide +kernel
theorem dX13_print_173 : decode cX13_print 173 = .ok (.iload_n 1, 1) := by decide +kernel
theorem dX13_print_174 : decode cX13_print 174 = .ok (.iaload, 1) := by decide +kernel
theorem dX13_print_175 : decode cX13_print 175 = .ok (.iaload, 1) := by decide +kernel
theorem dX13_print_176 : decode cX13_print 176 = .ok (.iconst 2, 1) := by decide +kernel
theorem dX13_print_177 : decode cX13_print 177 = .ok (.if_icmp .gt 7, 3) := by decide +kernel
theorem dX13_print_180 : decode cX13_print 180 = .ok (.iconst 1, 1) := by decide +kernel
theorem dX13_print_181 : decode cX13_print 181 = .ok (.goto 4, 3) := by decide +kernel
theorem dX13_print_184 : decode cX13_print 184 = .ok (.iconst 0, 1) := by decide +kernel
theorem dX13_print_185 : decode cX13_print 185 = .ok (.iconst 0, 1) := by decide +kernel
theorem dX13_print_186 : decode cX13_print 186 = .ok (.invokevirtual 394, 3) := by decide +kernel
theorem dX13_print_189 : decode cX13_print 189 = .ok (.aload_n 0, 1) := by decide +kernel
theorem dX13_print_190 : decode cX13_print 190 = .ok (.ldc_w 406, 3) := by decide +kernel
theorem dX13_print_193 : decode cX13_print 193 = .ok (.invokevirtual 400, 3) := by decide +kernel
theorem dX13_print_196 : decode cX13_print 196 = .ok (.aload_n 0, 1) := by decide +kernel
theorem dX13_print_197 : decode cX13_print 197 = .ok (.aload_n 0, 1) := by decide +kernel
theorem dX13_print_198 : decode cX13_print 198 = .ok (.getfield 22, 3) := by decide +kernel
theorem dX13_print_201 : decode cX13_print 201 = .ok (.iload_n 1, 1) := by decide +kernel
theorem dX13_print_202 : decode cX13_print 202 = .ok (.iaload, 1) := by decide +kernel
theorem dX13_print_203 : decode cX13_print 203 = .ok (.aload_n 0, 1) := by decide +kernel
theorem dX13_print_204 : decode cX13_print 204 = .ok (.getfield 12, 3) := by decide +kernel
theorem dX13_print_207 : decode cX13_print 207 = .ok (.aload_n 0, 1) := by decide +kernel
theorem dX13_print_208 : decode cX13_print 208 = .ok (.getfield 22, 3) := by decide +kernel
theorem dX13_print_211 : decode cX13_print 211 = .ok (.iload_n 1, 1) := by decide +kernel
theorem dX13_print_212 : decode cX13_print 212 = .ok (.iaload, 1) := by decide +kernel
theorem dX13_print_213 : decode cX13_print 213 = .ok (.iaload, 1) := by decide +kernel
theorem dX13_print_214 : decode cX13_print 214 = .ok (.ifCond .eq 18, 3) := by decide +kernel
theorem dX13_print_217 : decode cX13_print 217 = .ok (.aload_n 0, 1) := by decide +kernel
theorem dX13_print_218 : decode cX13_print 218 = .ok (.getfield 12, 3) := by decide +kernel
theorem dX13_print_221 : decode cX13_print 221 = .ok (.aload_n 0, 1) := by decide +kernel
theorem dX13_print_222 : decode cX13_print 222 = .ok (.getfield 22, 3) := by decide +kernel
theorem dX13_print_225 : decode cX13_print 225 = .ok (.iload_n 1, 1) := by decide +kernel
theorem dX13_print_226 : decode cX13_print 226 = .ok (.iaload, 1) := by decide +kernel
theorem dX13_print_227 : decode cX13_print 227 = .ok (.iaload, 1) := by decide +kernel
theorem dX13_print_228 : decode cX13_print 228 = .ok (.iconst 2, 1) := by decide +kernel
theorem dX13_print_229 : decode cX13_print 229 = .ok (.if_icmp .ne 7, 3) := by decide +kernel
theorem dX13_print_232 : decode cX13_print 232 = .ok (.iconst 1, 1) := by decide +kernel
theorem dX13_print_233 : decode cX13_print 233 = .ok (.goto 4, 3) := by decide +kernel
theorem dX13_print_236 : decode cX13_print 236 = .ok (.iconst 0, 1) := by decide +kernel
theorem dX13_print_237 : decode cX13_print 237 = .ok (.iload_n 2, 1) := by decide +kernel
theorem dX13_print_238 : decode cX13_print 238 = .ok (.invokevirtual 394, 3) := by decide +kernel
theorem dX13_print_241 : decode cX13_print 241 = .ok (.goto 124, 3) := by decide +kernel
theorem dX13_print_244 : decode cX13_print 244 = .ok (.iload_n 3, 1) := by decide +kernel
theorem dX13_print_245 : decode cX13_print 245 = .ok (.iconst 3, 1) := by decide +kernel
theorem dX13_print_246 : decode cX13_print 246 = .ok (.if_icmp .ne 12, 3) := by decide +kernel
theorem dX13_print_249 : decode cX13_print 249 = .ok (.aload_n 0, 1) := by decide +kernel
theorem dX13_print_250 : decode cX13_print 250 = .ok (.ldc 192, 2) := by decide +kernel
theorem dX13_print_252 : decode cX13_print 252 = .ok (.invokevirtual 400, 3) := by decide +kernel
theorem dX13_print_255 : decode cX13_print 255 = .ok (.goto 110, 3) := by decide +kernel
theorem dX13_print_258 : decode cX13_print 258 = .ok (.iload_n 3, 1) := by decide +kernel
theorem dX13_print_259 : decode cX13_print 259 = .ok (.bipush 6, 2) := by decide +kernel
theorem dX13_print_261 : decode cX13_print 261 = .ok (.if_icmp .ne 35, 3) := by decide +kernel
theorem dX13_print_264 : decode cX13_print 264 = .ok (.aload_n 0, 1) := by decide +kernel
theorem dX13_print_265 : decode cX13_print 265 = .ok (.aload_n 0, 1) := by decide +kernel
theorem dX13_print_266 : decode cX13_print 266 = .ok (.getfield 19, 3) := by decide +kernel
theorem dX13_print_269 : decode cX13_print 269 = .ok (.iload_n 1, 1) := by decide +kernel
theorem dX13_print_270 : decode cX13_print 270 = .ok (.iaload, 1) := by decide +kernel
theorem dX13_print_271 : decode cX13_print 271 = .ok (.iconst 0, 1) := by decide +kernel
theorem dX13_print_272 : decode cX13_print 272 = .ok (.invokevirtual 408, 3) := by decide +kernel
theorem dX13_print_275 : decode cX13_print 275 = .ok (.aload_n 0, 1) := by decide +kernel
theorem dX13_print_276 : decode cX13_print 276 = .ok (.ldc_w 412, 3) := by decide +kernel
theorem dX13_print_279 : decode cX13_print 279 = .ok (.invokevirtual 400, 3) := by decide +kernel
theorem dX13_print_282 : decode cX13_print 282 = .ok (.aload_n 0, 1) := by decide +kernel
theorem dX13_print_283 : decode cX13_print 283 = .ok (.aload_n 0, 1) := by decide +kernel
theorem dX13_print_284 : decode cX13_print 284 = .ok (.getfield 22, 3) := by decide +kernel
theorem dX13_print_287 : decode cX13_print 287 = .ok (.iload_n 1, 1) := by decide +kernel
theorem dX13_print_288 : decode cX13_print 288 = .ok (.iaload, 1) := by decide +kernel
theorem dX13_print_289 : decode cX13_print 289 = .ok (.iconst 0, 1) := by decide +kernel
theorem dX13_print_290 : decode cX13_print 290 = .ok (.invokevirtual 408, 3) := by decide +kernel
theorem dX13_print_293 : decode cX13_print 293 = .ok (.goto 72, 3) := by decide +kernel
theorem dX13_print_296 : decode cX13_print 296 = .ok (.iload_n 3, 1) := by decide +kernel
theorem dX13_print_297 : decode cX13_print 297 = .ok (.bipush 9, 2) := by decide +kernel
theorem dX13_print_299 : decode cX13_print 299 = .ok (.if_icmp .ne 16, 3) := by decide +kernel
theorem dX13_print_302 : decode cX13_print 302 = .ok (.aload_n 0, 1) := by decide +kernel
theorem dX13_print_303 : decode cX13_print 303 = .ok (.aload_n 0, 1) := by decide +kernel
theorem dX13_print_304 : decode cX13_print 304 = .ok (.getfield 16, 3) := by decide +kernel
theorem dX13_print_307 : decode cX13_print 307 = .ok (.iload_n 1, 1) := by decide +kernel
theorem dX13_print_308 : decode cX13_print 308 = .ok (.iaload, 1) := by decide +kernel
theorem dX13_print_309 : decode cX13_print 309 = .ok (.invokevirtual 381, 3) := by decide +kernel
theorem dX13_print_312 : decode cX13_print 312 = .ok (.goto 53, 3) := by decide +kernel
theorem dX13_print_315 : decode cX13_print 315 = .ok (.iload_n 3, 1) := by decide +kernel
theorem dX13_print_316 : decode cX13_print 316 = .ok (.bipush 10, 2) := by decide +kernel
theorem dX13_print_318 : decode cX13_print 318 = .ok (.if_icmp .ne 23, 3) := by decide +kernel
theorem dX13_print_321 : decode cX13_print 321 = .ok (.aload_n 0, 1) := by decide +kernel
theorem dX13_print_322 : decode cX13_print 322 = .ok (.aload_n 0, 1) := by decide +kernel
theorem dX13_print_323 : decode cX13_print 323 = .ok (.getfield 388, 3) := by decide +kernel
theorem dX13_print_326 : decode cX13_print 326 = .ok (.iconst 1, 1) := by decide +kernel
theorem dX13_print_327 : decode cX13_print 327 = .ok (.isub, 1) := by decide +kernel
theorem dX13_print_328 : decode cX13_print 328 = .ok (.aload_n 0, 1) := by decide +kernel
theorem dX13_print_329 : decode cX13_print 329 = .ok (.getfield 16, 3) := by decide +kernel
theorem dX13_print_332 : decode cX13_print 332 = .ok (.iload_n 1, 1) := by decide +kernel
theorem dX13_print_333 : decode cX13_print 333 = .ok (.iaload, 1) := by decide +kernel
theorem dX13_print_334 : decode cX13_print 334 = .ok (.isub, 1) := by decide +kernel
theorem dX13_print_335 : decode cX13_print 335 = .ok (.invokevirtual 414, 3) := by decide +kernel
theorem dX13_print_338 : decode cX13_print 338 = .ok (.goto 27, 3) := by decide +kernel
theorem dX13_print_341 : decode cX13_print 341 = .ok (.iload_n 3, 1) := by decide +kernel
theorem dX13_print_342 : decode cX13_print 342 = .ok (.iconst 4, 1) := by decide +kernel
theorem dX13_print_343 : decode cX13_print 343 = .ok (.if_icmp .eq 8, 3) := by decide +kernel
theorem dX13_print_346 : decode cX13_print 346 = .ok (.iload_n 3, 1) := by decide +kernel
theorem dX13_print_347 : decode cX13_print 347 = .ok (.iconst 5, 1) := by decide +kernel
theorem dX13_print_348 : decode cX13_print 348 = .ok (.if_icmp .ne 12, 3) := by decide +kernel
theorem dX13_print_351 : decode cX13_print 351 = .ok (.aload_n 0, 1) := by decide +kernel
theorem dX13_print_352 : decode cX13_print 352 = .ok (.iload_n 1, 1) := by decide +kernel
theorem dX13_print_353 : decode cX13_print 353 = .ok (.iload_n 3, 1) := by decide +kernel
theorem dX13_print_354 : decode cX13_print 354 = .ok (.invokevirtual 417, 3) := by decide +kernel
theorem dX13_print_357 : decode cX13_print 357 = .ok (.goto 8, 3) := by decide +kernel
theorem dX13_print_360 : decode cX13_print 360 = .ok (.aload_n 0, 1) := by decide +kernel
theorem dX13_print_361 : decode cX13_print 361 = .ok (.iload_n 1, 1) := by decide +kernel
theorem dX13_print_362 : decode cX13_print 362 = .ok (.invokevirtual 420, 3) := by decide +kernel
theorem dX13_print_365 : decode cX13_print 365 = .ok (.return_, 1) := by decide +kernel
theorem dX13_side_0 : decode cX13_side 0 = .ok (.iload_n 2, 1) := by decide +kernel
theorem dX13_side_1 : decode cX13_side 1 = .ok (.ifCond .ne 27, 3) := by decide +kernel
theorem dX13_side_4 : decode cX13_side 4 = .ok (.iload_n 3, 1) := by decide +kernel
theorem dX13_side_5 : decode cX13_side 5 = .ok (.ifCond .ne 27, 3) := by decide +kernel
theorem dX13_side_8 : decode cX13_side 8 = .ok (.aload_n 0, 1) := by decide +kernel
theorem dX13_side_9 : decode cX13_side 9 = .ok (.getfield 12, 3) := by decide +kernel
theorem dX13_side_12 : decode cX13_side 12 = .ok (.iload_n 1, 1) := by decide +kernel
theorem dX13_side_13 : decode cX13_side 13 = .ok (.iaload, 1) := by decide +kernel
theorem dX13_side_14 : decode cX13_side 14 = .ok (.iconst 4, 1) := by decide +kernel
theorem dX13_side_15 : decode cX13_side 15 = .ok (.if_icmp .eq 13, 3) := by decide +kernel
theorem dX13_side_18 : decode cX13_side 18 = .ok (.aload_n 0, 1) := by decide +kernel
theorem dX13_side_19 : decode cX13_side 19 = .ok (.getfield 12, 3) := by decide +kernel
theorem dX13_side_22 : decode cX13_side 22 = .ok (.iload_n 1, 1) := by decide +kernel
theorem dX13_side_23 : decode cX13_side 23 = .ok (.iaload, 1) := by decide +kernel
theorem dX13_side_24 : decode cX13_side 24 = .ok (.iconst 5, 1) := by decide +kernel
theorem dX13_side_25 : decode cX13_side 25 = .ok (.if_icmp .ne 7, 3) := by decide +kernel
theorem dX13_side_28 : decode cX13_side 28 = .ok (.iconst 1, 1) := by decide +kernel
theorem dX13_side_29 : decode cX13_side 29 = .ok (.goto 4, 3) := by decide +kernel
theorem dX13_side_32 : decode cX13_side 32 = .ok (.iconst 0, 1) := by decide +kernel
theorem dX13_side_33 : decode cX13_side 33 = .ok (.istore 4, 2) := by decide +kernel
theorem dX13_side_35 : decode cX13_side 35 = .ok (.iload 4, 2) := by decide +kernel
theorem dX13_side_37 : decode cX13_side 37 = .ok (.ifCond .eq 9, 3) := by decide +kernel
theorem dX13_side_40 : decode cX13_side 40 = .ok (.aload_n 0, 1) := by decide +kernel
theorem dX13_side_41 : decode cX13_side 41 = .ok (.bipush 40, 2) := by decide +kernel
theorem dX13_side_43 : decode cX13_side 43 = .ok (.invokevirtual 378, 3) := by decide +kernel
theorem dX13_side_46 : decode cX13_side 46 = .ok (.aload_n 0, 1) := by decide +kernel
theorem dX13_side_47 : decode cX13_side 47 = .ok (.iload_n 1, 1) := by decide +kernel
theorem dX13_side_48 : decode cX13_side 48 = .ok (.iload 4, 2) := by decide +kernel
theorem dX13_side_50 : decode cX13_side 50 = .ok (.ifCond .ne 7, 3) := by decide +kernel
theorem dX13_side_53 : decode cX13_side 53 = .ok (.iload_n 3, 1) := by decide +kernel
theorem dX13_side_54 : decode cX13_side 54 = .ok (.ifCond .eq 7, 3) := by decide +kernel
theorem dX13_side_57 : decode cX13_side 57 = .ok (.iconst 1, 1) := by decide +kernel
theorem dX13_side_58 : decode cX13_side 58 = .ok (.goto 4, 3) := by decide +kernel
theorem dX13_side_61 : decode cX13_side 61 = .ok (.iconst 0, 1) := by decide +kernel
theorem dX13_side_62 : decode cX13_side 62 = .ok (.invokevirtual 408, 3) := by decide +kernel
theorem dX13_side_65 : decode cX13_side 65 = .ok (.iload 4, 2) := by decide +kernel
theorem dX13_side_67 : decode cX13_side 67 = .ok (.ifCond .eq 9, 3) := by decide +kernel
theorem dX13_side_70 : decode cX13_side 70 = .ok (.aload_n 0, 1) := by decide +kernel
theorem dX13_side_71 : decode cX13_side 71 = .ok (.bipush 41, 2) := by decide +kernel
theorem dX13_side_73 : decode cX13_side 73 = .ok (.invokevirtual 378, 3) := by decide +kernel
theorem dX13_side_76 : decode cX13_side 76 = .ok (.return_, 1) := by decide +kernel
theorem dX13_quantified_0 : decode cX13_quantified 0 = .ok (.iconst 0, 1) := by decide +kernel
theorem dX13_quantified_1 : decode cX13_quantified 1 = .ok (.istore_n 3, 1) := by decide +kernel
theorem dX13_quantified_2 : decode cX13_quantified 2 = .ok (.aload_n 0, 1) := by decide +kernel
theorem dX13_quantified_3 : decode cX13_quantified 3 = .ok (.aload_n 0, 1) := by decide +kernel
theorem dX13_quantified_4 : decode cX13_quantified 4 = .ok (.getfield 19, 3) := by decide +kernel
theorem dX13_quantified_7 : decode cX13_quantified 7 = .ok (.iload_n 1, 1) := by decide +kernel
theorem dX13_quantified_8 : decode cX13_quantified 8 = .ok (.iaload, 1) := by decide +kernel
theorem dX13_quantified_9 : decode cX13_quantified 9 = .ok (.iconst 0, 1) := by decide +kernel
theorem dX13_quantified_10 : decode cX13_quantified 10 = .ok (.aload_n 0, 1) := by decide +kernel
theorem dX13_quantified_11 : decode cX13_quantified 11 = .ok (.getfield 16, 3) := by decide +kernel
theorem dX13_quantified_14 : decode cX13_quantified 14 = .ok (.iload_n 1, 1) := by decide +kernel
theorem dX13_quantified_15 : decode cX13_quantified 15 = .ok (.iaload, 1) := by decide +kernel
theorem dX13_quantified_16 : decode cX13_quantified 16 = .ok (.iload_n 3, 1) := by decide +kernel
theorem dX13_quantified_17 : decode cX13_quantified 17 = .ok (.invokevirtual 391, 3) := by decide +kernel
theorem dX13_quantified_20 : decode cX13_quantified 20 = .ok (.ifCond .eq 9, 3) := by decide +kernel
theorem dX13_quantified_23 : decode cX13_quantified 23 = .ok (.iinc 3 1, 3) := by decide +kernel
theorem dX13_quantified_26 : decode cX13_quantified 26 = .ok (.goto (-24), 3) := by decide +kernel
theorem dX13_quantified_29 : decode cX13_quantified 29 = .ok (.aload_n 0, 1) := by decide +kernel
theorem dX13_quantified_30 : decode cX13_quantified 30 = .ok (.iload_n 2, 1) := by decide +kernel
theorem dX13_quantified_31 : decode cX13_quantified 31 = .ok (.iconst 4, 1) := by decide +kernel
theorem dX13_quantified_32 : decode cX13_quantified 32 = .ok (.if_icmp .ne 9, 3) := by decide +kernel
theorem dX13_quantified_35 : decode cX13_quantified 35 = .ok (.ldc_w 423, 3) := by decide +kernel
theorem dX13_quantified_38 : decode cX13_quantified 38 = .ok (.goto 6, 3) := by decide +kernel
theorem dX13_quantified_41 : decode cX13_quantified 41 = .ok (.ldc_w 425, 3) := by decide +kernel
theorem dX13_quantified_44 : decode cX13_quantified 44 = .ok (.invokevirtual 400, 3) := by decide +kernel
theorem dX13_quantified_47 : decode cX13_quantified 47 = .ok (.aload_n 0, 1) := by decide +kernel
theorem dX13_quantified_48 : decode cX13_quantified 48 = .ok (.getfield 93, 3) := by decide +kernel
theorem dX13_quantified_51 : decode cX13_quantified 51 = .ok (.aload_n 0, 1) := by decide +kernel
theorem dX13_quantified_52 : decode cX13_quantified 52 = .ok (.getfield 388, 3) := by decide +kernel
theorem dX13_quantified_55 : decode cX13_quantified 55 = .ok (.aload_n 0, 1) := by decide +kernel
theorem dX13_quantified_56 : decode cX13_quantified 56 = .ok (.getfield 16, 3) := by decide +kernel
theorem dX13_quantified_59 : decode cX13_quantified 59 = .ok (.iload_n 1, 1) := by decide +kernel
theorem dX13_quantified_60 : decode cX13_quantified 60 = .ok (.iaload, 1) := by decide +kernel
theorem dX13_quantified_61 : decode cX13_quantified 61 = .ok (.iastore, 1) := by decide +kernel
theorem dX13_quantified_62 : decode cX13_quantified 62 = .ok (.aload_n 0, 1) := by decide +kernel
theorem dX13_quantified_63 : decode cX13_quantified 63 = .ok (.getfield 96, 3) := by decide +kernel
theorem dX13_quantified_66 : decode cX13_quantified 66 = .ok (.aload_n 0, 1) := by decide +kernel
theorem dX13_quantified_67 : decode cX13_quantified 67 = .ok (.getfield 388, 3) := by decide +kernel
theorem dX13_quantified_70 : decode cX13_quantified 70 = .ok (.iload_n 3, 1) := by decide +kernel
theorem dX13_quantified_71 : decode cX13_quantified 71 = .ok (.iastore, 1) := by decide +kernel
theorem dX13_quantified_72 : decode cX13_quantified 72 = .ok (.aload_n 0, 1) := by decide +kernel
theorem dX13_quantified_73 : decode cX13_quantified 73 = .ok (.dup, 1) := by decide +kernel
theorem dX13_quantified_74 : decode cX13_quantified 74 = .ok (.getfield 388, 3) := by decide +kernel
theorem dX13_quantified_77 : decode cX13_quantified 77 = .ok (.iconst 1, 1) := by decide +kernel
theorem dX13_quantified_78 : decode cX13_quantified 78 = .ok (.iadd, 1) := by decide +kernel
theorem dX13_quantified_79 : decode cX13_quantified 79 = .ok (.putfield 388, 3) := by decide +kernel
theorem dX13_quantified_82 : decode cX13_quantified 82 = .ok (.aload_n 0, 1) := by decide +kernel
theorem dX13_quantified_83 : decode cX13_quantified 83 = .ok (.aload_n 0, 1) := by decide +kernel
theorem dX13_quantified_84 : decode cX13_quantified 84 = .ok (.getfield 388, 3) := by decide +kernel
theorem dX13_quantified_87 : decode cX13_quantified 87 = .ok (.iconst 1, 1) := by decide +kernel
theorem dX13_quantified_88 : decode cX13_quantified 88 = .ok (.isub, 1) := by decide +kernel
theorem dX13_quantified_89 : decode cX13_quantified 89 = .ok (.invokevirtual 414, 3) := by decide +kernel
theorem dX13_quantified_92 : decode cX13_quantified 92 = .ok (.aload_n 0, 1) := by decide +kernel
theorem dX13_quantified_93 : decode cX13_quantified 93 = .ok (.ldc_w 427, 3) := by decide +kernel
theorem dX13_quantified_96 : decode cX13_quantified 96 = .ok (.invokevirtual 400, 3) := by decide +kernel
theorem dX13_quantified_99 : decode cX13_quantified 99 = .ok (.aload_n 0, 1) := by decide +kernel
theorem dX13_quantified_100 : decode cX13_quantified 100 = .ok (.aload_n 0, 1) := by decide +kernel
theorem dX13_quantified_101 : decode cX13_quantified 101 = .ok (.getfield 19, 3) := by decide +kernel
theorem dX13_quantified_104 : decode cX13_quantified 104 = .ok (.iload_n 1, 1) := by decide +kernel
theorem dX13_quantified_105 : decode cX13_quantified 105 = .ok (.iaload, 1) := by decide +kernel
theorem dX13_quantified_106 : decode cX13_quantified 106 = .ok (.iconst 1, 1) := by decide +kernel
theorem dX13_quantified_107 : decode cX13_quantified 107 = .ok (.invokevirtual 408, 3) := by decide +kernel
theorem dX13_quantified_110 : decode cX13_quantified 110 = .ok (.aload_n 0, 1) := by decide +kernel
theorem dX13_quantified_111 : decode cX13_quantified 111 = .ok (.dup, 1) := by decide +kernel
theorem dX13_quantified_112 : decode cX13_quantified 112 = .ok (.getfield 388, 3) := by decide +kernel
theorem dX13_quantified_115 : decode cX13_quantified 115 = .ok (.iconst 1, 1) := by decide +kernel
theorem dX13_quantified_116 : decode cX13_quantified 116 = .ok (.isub, 1) := by decide +kernel
theorem dX13_quantified_117 : decode cX13_quantified 117 = .ok (.putfield 388, 3) := by decide +kernel
theorem dX13_quantified_120 : decode cX13_quantified 120 = .ok (.return_, 1) := by decide +kernel
theorem dX13_applied_0 : decode cX13_applied 0 = .ok (.aload_n 0, 1) := by decide +kernel
theorem dX13_applied_1 : decode cX13_applied 1 = .ok (.aload_n 0, 1) := by decide +kernel
theorem dX13_applied_2 : decode cX13_applied 2 = .ok (.getfield 37, 3) := by decide +kernel
theorem dX13_applied_5 : decode cX13_applied 5 = .ok (.aload_n 0, 1) := by decide +kernel
theorem dX13_applied_6 : decode cX13_applied 6 = .ok (.getfield 16, 3) := by decide +kernel
theorem dX13_applied_9 : decode cX13_applied 9 = .ok (.iload_n 1, 1) := by decide +kernel
theorem dX13_applied_10 : decode cX13_applied 10 = .ok (.iaload, 1) := by decide +kernel
theorem dX13_applied_11 : decode cX13_applied 11 = .ok (.iaload, 1) := by decide +kernel
theorem dX13_applied_12 : decode cX13_applied 12 = .ok (.invokevirtual 381, 3) := by decide +kernel
theorem dX13_applied_15 : decode cX13_applied 15 = .ok (.aload_n 0, 1) := by decide +kernel
theorem dX13_applied_16 : decode cX13_applied 16 = .ok (.iload_n 1, 1) := by decide +kernel
theorem dX13_applied_17 : decode cX13_applied 17 = .ok (.invokevirtual 252, 3) := by decide +kernel
theorem dX13_applied_20 : decode cX13_applied 20 = .ok (.istore_n 2, 1) := by decide +kernel
theorem dX13_applied_21 : decode cX13_applied 21 = .ok (.iload_n 2, 1) := by decide +kernel
theorem dX13_applied_22 : decode cX13_applied 22 = .ok (.ifCond .ne 4, 3) := by decide +kernel
theorem dX13_applied_25 : decode cX13_applied 25 = .ok (.return_, 1) := by decide +kernel
theorem dX13_applied_26 : decode cX13_applied 26 = .ok (.aload_n 0, 1) := by decide +kernel
theorem dX13_applied_27 : decode cX13_applied 27 = .ok (.bipush 40, 2) := by decide +kernel
theorem dX13_applied_29 : decode cX13_applied 29 = .ok (.invokevirtual 378, 3) := by decide +kernel
theorem dX13_applied_32 : decode cX13_applied 32 = .ok (.iconst 0, 1) := by decide +kernel
theorem dX13_applied_33 : decode cX13_applied 33 = .ok (.istore_n 3, 1) := by decide +kernel
theorem dX13_applied_34 : decode cX13_applied 34 = .ok (.iload_n 3, 1) := by decide +kernel
theorem dX13_applied_35 : decode cX13_applied 35 = .ok (.iload_n 2, 1) := by decide +kernel
theorem dX13_applied_36 : decode cX13_applied 36 = .ok (.if_icmp .ge 31, 3) := by decide +kernel
theorem dX13_applied_39 : decode cX13_applied 39 = .ok (.iload_n 3, 1) := by decide +kernel
theorem dX13_applied_40 : decode cX13_applied 40 = .ok (.ifCond .le 10, 3) := by decide +kernel
theorem dX13_applied_43 : decode cX13_applied 43 = .ok (.aload_n 0, 1) := by decide +kernel
theorem dX13_applied_44 : decode cX13_applied 44 = .ok (.ldc_w 427, 3) := by decide +kernel
theorem dX13_applied_47 : decode cX13_applied 47 = .ok (.invokevirtual 400, 3) := by decide +kernel
theorem dX13_applied_50 : decode cX13_applied 50 = .ok (.aload_n 0, 1) := by decide +kernel
theorem dX13_applied_51 : decode cX13_applied 51 = .ok (.aload_n 0, 1) := by decide +kernel
theorem dX13_applied_52 : decode cX13_applied 52 = .ok (.iload_n 1, 1) := by decide +kernel
theorem dX13_applied_53 : decode cX13_applied 53 = .ok (.iload_n 3, 1) := by decide +kernel
theorem dX13_applied_54 : decode cX13_applied 54 = .ok (.invokevirtual 255, 3) := by decide +kernel
theorem dX13_applied_57 : decode cX13_applied 57 = .ok (.iconst 0, 1) := by decide +kernel
theorem dX13_applied_58 : decode cX13_applied 58 = .ok (.invokevirtual 408, 3) := by decide +kernel
theorem dX13_applied_61 : decode cX13_applied 61 = .ok (.iinc 3 1, 3) := by decide +kernel
theorem dX13_applied_64 : decode cX13_applied 64 = .ok (.goto (-30), 3) := by decide +kernel
theorem dX13_applied_67 : decode cX13_applied 67 = .ok (.aload_n 0, 1) := by decide +kernel
theorem dX13_applied_68 : decode cX13_applied 68 = .ok (.bipush 41, 2) := by decide +kernel
theorem dX13_applied_70 : decode cX13_applied 70 = .ok (.invokevirtual 378, 3) := by decide +kernel
theorem dX13_applied_73 : decode cX13_applied 73 = .ok (.return_, 1) := by decide +kernel
def EX13_side : List (Nat × Nat) := [(15, 46), (15, 49), (101, 0), (163, 0), (164, 0)]
def EX13_applied : List (Nat × Nat) := [(15, 46), (15, 49), (101, 0), (163, 0), (164, 0)]
def EX13_quantified : List (Nat × Nat) := [(15, 46), (15, 49), (101, 0), (163, 0), (164, 0)]
def EX13_print : List (Nat × Nat) := [(15, 46), (15, 49), (101, 0), (163, 0), (164, 0)]
def qX13_side (l : Launch) (dC : Nat → ClassId) (dI : Nat → Nat → Nat) (ca : Nat → ClassId) (base : Nat) (B : jF) (d : Nat) : Prop := ∀ (G0 : jT) (H0 : Heap) (r0 : Nat) (a1 : Int32) (a2 : Int32) (a3 : Int32) (pv : Int32) (zm : Nat) (zs : Nat) (zn : Nat) (za : Nat) (zb : Nat) (zc : Nat) (zy : Nat) (M : Int) (fm : Nat → Int32) (C : jK), Met l yX13_side (jw yX13_side cX13_side 5 none) ({ frames := 3 * d + 11, cells := 0, slots := 0, locals := 90 * d + 1040 }) (va_Pc [.ref r0, .int a1, .int a2, .int a3] (fun U => U.heap = H0 ∧ jX B base G0 [] H0 ∧ jG dC dI ca base U ∧ G0 r0 = some (15, 0) ∧ (a2 = 0 ∨ a2 = 1) ∧ (a3 = 0 ∨ a3 = 1) ∧ G0 zm = some (164, 100) ∧ G0 zs = some (150, 120000) ∧ G0 zn = some (151, 120000) ∧ G0 za = some (152, 120000) ∧ G0 zb = some (153, 120000) ∧ G0 zc = some (154, 120000) ∧ G0 zy = some (165, 16) ∧ jP (dC, dI) G0 H0 [(r0, 15, 49, .int pv), (r0, 15, 48, .ref zm), (r0, 15, 0, .ref zs), (r0, 15, 1, .ref zn), (r0, 15, 2, .ref za), (r0, 15, 3, .ref zb), (r0, 15, 4, .ref zc), (r0, 15, 14, .ref zy)] ∧ jMc (dC, dI) G0 H0 [(zm, 164, 100, ca 1, fm), (zs, 150, 120000, ca 1, C.s), (zn, 151, 120000, ca 1, C.n), (za, 152, 120000, ca 1, C.a), (zb, 153, 120000, ca 1, C.b), (zc, 154, 120000, ca 1, C.c), (zy, 165, 16, ca 1, C.y)] ∧ jFm C 120000 16 d pv.toInt a1.toInt ∧ jMx fm pv.toInt M ∧ 0 ≤ pv.toInt ∧ pv.toInt + d ≤ 99 ∧ 0 ≤ M ∧ M + 11 * d ≤ 90000 ∧ d ≤ 80)) (va_Qv (S := Int32 × (Nat → Int32)) (fun u => u.1.toInt = pv.toInt ∧ jEqK fm u.2 pv.toInt) (fun u t => jRt (dC, dI) B base G0 EX13_side H0 [(r0, 15, 49, .int u.1)] t.heap ∧ jMc (dC, dI) G0 t.heap [(zm, 164, 100, ca 1, u.2)]) (jA base)) 0 0 (jA base)
def qX13_applied (l : Launch) (dC : Nat → ClassId) (dI : Nat → Nat → Nat) (ca : Nat → ClassId) (base : Nat) (B : jF) (d : Nat) : Prop := ∀ (G0 : jT) (H0 : Heap) (r0 : Nat) (a1 : Int32) (pv : Int32) (zm : Nat) (zs : Nat) (zn : Nat) (za : Nat) (zb : Nat) (zc : Nat) (zy : Nat) (M : Int) (fm : Nat → Int32) (C : jK), Met l yX13_applied (jw yX13_applied cX13_applied 4 none) ({ frames := 3 * d + 8, cells := 0, slots := 0, locals := 90 * d + 960 }) (va_Pc [.ref r0, .int a1] (fun U => U.heap = H0 ∧ jX B base G0 [] H0 ∧ jG dC dI ca base U ∧ G0 r0 = some (15, 0) ∧ G0 zm = some (164, 100) ∧ G0 zs = some (150, 120000) ∧ G0 zn = some (151, 120000) ∧ G0 za = some (152, 120000) ∧ G0 zb = some (153, 120000) ∧ G0 zc = some (154, 120000) ∧ G0 zy = some (165, 16) ∧ jP (dC, dI) G0 H0 [(r0, 15, 49, .int pv), (r0, 15, 48, .ref zm), (r0, 15, 0, .ref zs), (r0, 15, 1, .ref zn), (r0, 15, 2, .ref za), (r0, 15, 3, .ref zb), (r0, 15, 4, .ref zc), (r0, 15, 14, .ref zy)] ∧ jMc (dC, dI) G0 H0 [(zm, 164, 100, ca 1, fm), (zs, 150, 120000, ca 1, C.s), (zn, 151, 120000, ca 1, C.n), (za, 152, 120000, ca 1, C.a), (zb, 153, 120000, ca 1, C.b), (zc, 154, 120000, ca 1, C.c), (zy, 165, 16, ca 1, C.y)] ∧ jFm C 120000 16 d pv.toInt a1.toInt ∧ jMx fm pv.toInt M ∧ 0 ≤ pv.toInt ∧ pv.toInt + d ≤ 99 ∧ 0 ≤ M ∧ M + 11 * d ≤ 90000 ∧ d ≤ 80 ∧ 7 ≤ jSo C.s a1.toInt ∧ jSo C.s a1.toInt ≤ 8)) (va_Qv (S := Int32 × (Nat → Int32)) (fun u => u.1.toInt = pv.toInt ∧ jEqK fm u.2 pv.toInt) (fun u t => jRt (dC, dI) B base G0 EX13_applied H0 [(r0, 15, 49, .int u.1)] t.heap ∧ jMc (dC, dI) G0 t.heap [(zm, 164, 100, ca 1, u.2)]) (jA base)) 0 0 (jA base)
def qX13_quantified (l : Launch) (dC : Nat → ClassId) (dI : Nat → Nat → Nat) (ca : Nat → ClassId) (base : Nat) (B : jF) (d : Nat) : Prop := ∀ (G0 : jT) (H0 : Heap) (r0 : Nat) (a1 : Int32) (a2 : Int32) (pv : Int32) (zm : Nat) (zs : Nat) (zn : Nat) (za : Nat) (zb : Nat) (zc : Nat) (zy : Nat) (M : Int) (fm : Nat → Int32) (C : jK), Met l yX13_quantified (jw yX13_quantified cX13_quantified 4 none) ({ frames := 3 * d + 8, cells := 0, slots := 0, locals := 90 * d + 960 }) (va_Pc [.ref r0, .int a1, .int a2] (fun U => U.heap = H0 ∧ jX B base G0 [] H0 ∧ jG dC dI ca base U ∧ G0 r0 = some (15, 0) ∧ G0 zm = some (164, 100) ∧ G0 zs = some (150, 120000) ∧ G0 zn = some (151, 120000) ∧ G0 za = some (152, 120000) ∧ G0 zb = some (153, 120000) ∧ G0 zc = some (154, 120000) ∧ G0 zy = some (165, 16) ∧ jP (dC, dI) G0 H0 [(r0, 15, 49, .int pv), (r0, 15, 48, .ref zm), (r0, 15, 0, .ref zs), (r0, 15, 1, .ref zn), (r0, 15, 2, .ref za), (r0, 15, 3, .ref zb), (r0, 15, 4, .ref zc), (r0, 15, 14, .ref zy)] ∧ jMc (dC, dI) G0 H0 [(zm, 164, 100, ca 1, fm), (zs, 150, 120000, ca 1, C.s), (zn, 151, 120000, ca 1, C.n), (za, 152, 120000, ca 1, C.a), (zb, 153, 120000, ca 1, C.b), (zc, 154, 120000, ca 1, C.c), (zy, 165, 16, ca 1, C.y)] ∧ jFm C 120000 16 d pv.toInt a1.toInt ∧ jMx fm pv.toInt M ∧ 0 ≤ pv.toInt ∧ pv.toInt + d ≤ 99 ∧ 0 ≤ M ∧ M + 11 * d ≤ 90000 ∧ d ≤ 80 ∧ 4 ≤ jSo C.s a1.toInt ∧ jSo C.s a1.toInt ≤ 5)) (va_Qv (S := Int32 × (Nat → Int32)) (fun u => u.1.toInt = pv.toInt ∧ jEqK fm u.2 pv.toInt) (fun u t => jRt (dC, dI) B base G0 EX13_quantified H0 [(r0, 15, 49, .int u.1)] t.heap ∧ jMc (dC, dI) G0 t.heap [(zm, 164, 100, ca 1, u.2)]) (jA base)) 0 0 (jA base)
def qX13_print (l : Launch) (dC : Nat → ClassId) (dI : Nat → Nat → Nat) (ca : Nat → ClassId) (base : Nat) (B : jF) (d : Nat) : Prop := ∀ (G0 : jT) (H0 : Heap) (r0 : Nat) (a1 : Int32) (a2 : Int32) (pv : Int32) (zm : Nat) (zs : Nat) (zn : Nat) (za : Nat) (zb : Nat) (zc : Nat) (zy : Nat) (M : Int) (fm : Nat → Int32) (C : jK), Met l yX13_print (jw yX13_print cX13_print 4 none) ({ frames := 3 * d + 10, cells := 0, slots := 0, locals := 90 * d + 1000 }) (va_Pc [.ref r0, .int a1, .int a2] (fun U => U.heap = H0 ∧ jX B base G0 [] H0 ∧ jG dC dI ca base U ∧ G0 r0 = some (15, 0) ∧ (a2 = 0 ∨ a2 = 1) ∧ G0 zm = some (164, 100) ∧ G0 zs = some (150, 120000) ∧ G0 zn = some (151, 120000) ∧ G0 za = some (152, 120000) ∧ G0 zb = some (153, 120000) ∧ G0 zc = some (154, 120000) ∧ G0 zy = some (165, 16) ∧ jP (dC, dI) G0 H0 [(r0, 15, 49, .int pv), (r0, 15, 48, .ref zm), (r0, 15, 0, .ref zs), (r0, 15, 1, .ref zn), (r0, 15, 2, .ref za), (r0, 15, 3, .ref zb), (r0, 15, 4, .ref zc), (r0, 15, 14, .ref zy)] ∧ jMc (dC, dI) G0 H0 [(zm, 164, 100, ca 1, fm), (zs, 150, 120000, ca 1, C.s), (zn, 151, 120000, ca 1, C.n), (za, 152, 120000, ca 1, C.a), (zb, 153, 120000, ca 1, C.b), (zc, 154, 120000, ca 1, C.c), (zy, 165, 16, ca 1, C.y)] ∧ jFm C 120000 16 d pv.toInt a1.toInt ∧ jMx fm pv.toInt M ∧ 0 ≤ pv.toInt ∧ pv.toInt + d ≤ 99 ∧ 0 ≤ M ∧ M + 11 * d ≤ 90000 ∧ d ≤ 80)) (va_Qv (S := Int32 × (Nat → Int32)) (fun u => u.1.toInt = pv.toInt ∧ jEqK fm u.2 pv.toInt) (fun u t => jRt (dC, dI) B base G0 EX13_print H0 [(r0, 15, 49, .int u.1)] t.heap ∧ jMc (dC, dI) G0 t.heap [(zm, 164, 100, ca 1, u.2)]) (jA base)) 0 0 (jA base)
set_option maxHeartbeats 4000000 in
set_option maxRecDepth 20000 in
theorem uX13_side (l : Launch) (dC : Nat → ClassId) (dI : Nat → Nat → Nat) (ca : Nat → ClassId) (base : Nat) (B : jF) (hB : jBok B) (hAp : jAp (dC, dI)) (hB15 : ∀ n G a H, B 15 n G a H ↔ jOb (dC, dI) 15 50 (F15 n G) a H) (hB101 : ∀ n G a H, B 101 n G a H ↔ jAr (dC, dI) (ca 1) (fun j z => True) n a H) (hB150 : ∀ n G a H, B 150 n G a H ↔ jAr (dC, dI) (ca 1) (fun j z => True) n a H) (hB151 : ∀ n G a H, B 151 n G a H ↔ jAr (dC, dI) (ca 1) (fun j z => True) n a H) (hB152 : ∀ n G a H, B 152 n G a H ↔ jAr (dC, dI) (ca 1) (fun j z => True) n a H) (hB153 : ∀ n G a H, B 153 n G a H ↔ jAr (dC, dI) (ca 1) (fun j z => True) n a H) (hB154 : ∀ n G a H, B 154 n G a H ↔ jAr (dC, dI) (ca 1) (fun j z => True) n a H) (hB155 : ∀ n G a H, B 155 n G a H ↔ jAr (dC, dI) (ca 1) (fun j z => 0 ≤ z.toInt ∧ z.toInt ≤ 11990) n a H) (hB156 : ∀ n G a H, B 156 n G a H ↔ jAr (dC, dI) (ca 1) (fun j z => 0 ≤ z.toInt ∧ z.toInt ≤ 10) n a H) (hB163 : ∀ n G a H, B 163 n G a H ↔ jAr (dC, dI) (ca 1) (fun j z => 0 ≤ z.toInt ∧ z.toInt ≤ 1599) n a H) (hB164 : ∀ n G a H, B 164 n G a H ↔ jAr (dC, dI) (ca 1) (fun j z => 0 ≤ z.toInt ∧ z.toInt ≤ 100000) n a H) (hB165 : ∀ n G a H, B 165 n G a H ↔ jAr (dC, dI) (ca 1) (fun j z => 0 ≤ z.toInt ∧ z.toInt ≤ 3) n a H) (hB166 : ∀ n G a H, B 166 n G a H ↔ jAr (dC, dI) (ca 1) (fun j z => True) n a H) (d : Nat) (hP : qX13_print l dC dI ca base B d) (G0 : jT) (H0 : Heap) (r0 : Nat) (a1 : Int32) (a2 : Int32) (a3 : Int32) (pv : Int32) (zm : Nat) (zs : Nat) (zn : Nat) (za : Nat) (zb : Nat) (zc : Nat) (zy : Nat) (M : Int) (fm : Nat → Int32) (C : jK) : Met l yX13_side (jw yX13_side cX13_side 5 none) ({ frames := 3 * d + 11, cells := 0, slots := 0, locals := 90 * d + 1040 }) (va_Pc [.ref r0, .int a1, .int a2, .int a3] (fun U => U.heap = H0 ∧ jX B base G0 [] H0 ∧ jG dC dI ca base U ∧ G0 r0 = some (15, 0) ∧ (a2 = 0 ∨ a2 = 1) ∧ (a3 = 0 ∨ a3 = 1) ∧ G0 zm = some (164, 100) ∧ G0 zs = some (150, 120000) ∧ G0 zn = some (151, 120000) ∧ G0 za = some (152, 120000) ∧ G0 zb = some (153, 120000) ∧ G0 zc = some (154, 120000) ∧ G0 zy = some (165, 16) ∧ jP (dC, dI) G0 H0 [(r0, 15, 49, .int pv), (r0, 15, 48, .ref zm), (r0, 15, 0, .ref zs), (r0, 15, 1, .ref zn), (r0, 15, 2, .ref za), (r0, 15, 3, .ref zb), (r0, 15, 4, .ref zc), (r0, 15, 14, .ref zy)] ∧ jMc (dC, dI) G0 H0 [(zm, 164, 100, ca 1, fm), (zs, 150, 120000, ca 1, C.s), (zn, 151, 120000, ca 1, C.n), (za, 152, 120000, ca 1, C.a), (zb, 153, 120000, ca 1, C.b), (zc, 154, 120000, ca 1, C.c), (zy, 165, 16, ca 1, C.y)] ∧ jFm C 120000 16 d pv.toInt a1.toInt ∧ jMx fm pv.toInt M ∧ 0 ≤ pv.toInt ∧ pv.toInt + d ≤ 99 ∧ 0 ≤ M ∧ M + 11 * d ≤ 90000 ∧ d ≤ 80)) (va_Qv (S := Int32 × (Nat → Int32)) (fun u => u.1.toInt = pv.toInt ∧ jEqK fm u.2 pv.toInt) (fun u t => jRt (dC, dI) B base G0 EX13_side H0 [(r0, 15, 49, .int u.1)] t.heap ∧ jMc (dC, dI) G0 t.heap [(zm, 164, 100, ca 1, u.2)]) (jA base)) 0 0 (jA base) := by
  refine Met.ofW (cc := cX13_side) (maxL := 5) (ret := none) (by decide) rfl ?_
  intro p e s m args below meth c s₁ Bd hml hv
  obtain ⟨rfl, hH0, hX, hG, hg_r0, hz_a2, hz_a3, hg_zm, hg_zs, hg_zn, hg_za, hg_zb, hg_zc, hg_zy, hP0, hM0, hp0, hp1, hp2, hp3, hp4, hp5, hp6⟩ := hv
  have hK := hG.1
  have hx := Bd.exec
  have hb := Bd.bytes
  have hr := Bd.returns
  have hts := atoms_spec (ws := (jw yX13_side cX13_side 5 none)) Bd.pre
  have htw : ∀ w ∈ jWl, w.before _ s = true := fun w h => hts w (List.mem_cons_of_mem _ h)
  have hown : s.vm.findClass RX13 = some m.cls := findClass_of_methodNamed Bd.named
  have hlocks := Bd.notSynchronized
  obtain ⟨Q, hQ⟩ : ∃ Q, Q = MQ below (va_Qv (S := Int32 × (Nat → Int32)) (fun u => u.1.toInt = pv.toInt ∧ jEqK fm u.2 pv.toInt) (fun u t => jRt (dC, dI) B base G0 EX13_side H0 [(r0, 15, 49, .int u.1)] t.heap ∧ jMc (dC, dI) G0 t.heap [(zm, 164, 100, ca 1, u.2)]) (jA base)) ([.ref r0, .int a1, .int a2, .int a3] : List Value).toArray s 0 0 (jA base) := ⟨_, rfl⟩
  rw [← hQ]
  have hl := lv_entry ([.ref r0, .int a1, .int a2, .int a3]) (n := 5) (Nat.le_of_ble_eq_true rfl)
  rw [lg_entry_eq]
  generalize (lg_sl ([.ref r0, .int a1, .int a2, .int a3]) ++ List.replicate (5 - (lg_sl ([.ref r0, .int a1, .int a2, .int a3])).length) Slot.unset).toArray = ls at hl ⊢
  have hl : lv_has ls 5 [(0, .ref r0), (1, .int a1), (2, .int a2), (3, .int a3)] := hl
  generalize hR : (headSpec (jw yX13_side cX13_side 5 none) ({ frames := 3 * d + 11, cells := 0, slots := 0, locals := 90 * d + 1040 })).room = R
  subst hH0
  have hh : jSt (dC, dI) B base G0 G0 EX13_side s.heap 0 0 [(r0, 15, 49, .int pv), (r0, 15, 48, .ref zm), (r0, 15, 0, .ref zs), (r0, 15, 1, .ref zn), (r0, 15, 2, .ref za), (r0, 15, 3, .ref zb), (r0, 15, 4, .ref zc), (r0, 15, 14, .ref zy)] [(zm, 164, 100, ca 1, fm), (zs, 150, 120000, ca 1, C.s), (zn, 151, 120000, ca 1, C.n), (za, 152, 120000, ca 1, C.a), (zb, 153, 120000, ca 1, C.b), (zc, 154, 120000, ca 1, C.c), (zy, 165, 16, ca 1, C.y)] [] s.heap [] := jSt.start hX hP0 hM0 jIs.nil
  clear hX hP0
  have hk0 : (0 : Int32).toInt = 0 := by decide
  have hk1 : (1 : Int32).toInt = 1 := by decide
  have hk4 : (4 : Int32).toInt = 4 := by decide
  have hk5 : (5 : Int32).toInt = 5 := by decide
  have hk40 : (40 : Int32).toInt = 40 := by decide
  have hk41 : (41 : Int32).toInt = 41 := by decide
  have hly_15_0 := htw (u_lay RX13 TX13 0) (jWc_wsX130 _ (u_in_lay (by decide)))
  have hlk_12 := (htw (.fieldLink RX13 12 "ProofServerModel$Kernel" "sort" "[I") (jWr_14 _ (List.mem_of_getElem? (i := 9) rfl)))
  have hrg_a1 := jb_rng a1
  have hrg_a2 := jb_rng a2
  have hrg_a3 := jb_rng a3
  have hnd := hp0.nd
  obtain ⟨g1, g2, g3, g4, g5, g6, g7, g8, g9⟩ := hnd
  have hpos := hp0.pos
  refine lv_iload_n hx hb dX13_side_0 rfl (lv_at hl 2 rfl) ?_
  have C33 : ∀ (w0_1 : Int32) (H_1 : Heap) (locs_1 : List Loc), jSt (dC, dI) B base G0 G0 EX13_side s.heap 0 0 [(r0, 15, 49, .int pv), (r0, 15, 48, .ref zm), (r0, 15, 0, .ref zs), (r0, 15, 1, .ref zn), (r0, 15, 2, .ref za), (r0, 15, 3, .ref zb), (r0, 15, 4, .ref zc), (r0, 15, 14, .ref zy)] [(zm, 164, 100, ca 1, fm), (zs, 150, 120000, ca 1, C.s), (zn, 151, 120000, ca 1, C.n), (za, 152, 120000, ca 1, C.a), (zb, 153, 120000, ca 1, C.b), (zc, 154, 120000, ca 1, C.c), (zy, 165, 16, ca 1, C.y)] [] H_1 locs_1 → (w0_1 = 0 ∨ w0_1 = 1) → (True) → ∀ ls : Array Slot, lv_has ls 5 [(0, .ref r0), (1, .int a1), (2, .int a2), (3, .int a3)] → W p l e R s m ([.ref r0, .int a1, .int a2, .int a3] : List Value).toArray below meth c H_1 locs_1 0 0 Q (F0 m 33 ls [.int w0_1]) := by
    intro w0_1 H_1 locs_1 hh_1 hb_w0_1 hi_1 ls hl
    have hb_w0_1' := jb_01 hb_w0_1
    refine lv_istore (lv' := [(4, .int w0_1), (0, .ref r0), (1, .int a1), (2, .int a2), (3, .int a3)]) hx hb dX13_side_33 hl (by decide) rfl (fun ls hl => ?_)
    refine lv_iload hx hb dX13_side_35 (lv_at hl 0 rfl) ?_
    have C46 : ∀ (H_2 : Heap) (locs_2 : List Loc), jSt (dC, dI) B base G0 G0 EX13_side s.heap 0 0 [(r0, 15, 49, .int pv), (r0, 15, 48, .ref zm), (r0, 15, 0, .ref zs), (r0, 15, 1, .ref zn), (r0, 15, 2, .ref za), (r0, 15, 3, .ref zb), (r0, 15, 4, .ref zc), (r0, 15, 14, .ref zy)] [(zm, 164, 100, ca 1, fm), (zs, 150, 120000, ca 1, C.s), (zn, 151, 120000, ca 1, C.n), (za, 152, 120000, ca 1, C.a), (zb, 153, 120000, ca 1, C.b), (zc, 154, 120000, ca 1, C.c), (zy, 165, 16, ca 1, C.y)] [] H_2 locs_2 → (True) → ∀ ls : Array Slot, lv_has ls 5 [(0, .ref r0), (1, .int a1), (2, .int a2), (3, .int a3), (4, .int w0_1)] → W p l e R s m ([.ref r0, .int a1, .int a2, .int a3] : List Value).toArray below meth c H_2 locs_2 0 0 Q (F0 m 46 ls []) := by
      intro  H_2 locs_2 hh_2  hi_2 ls hl
      refine lv_aload_n hx hb dX13_side_46 rfl (lv_at hl 0 rfl) ?_
      refine lv_iload_n hx hb dX13_side_47 rfl (lv_at hl 1 rfl) ?_
      refine lv_iload hx hb dX13_side_48 (lv_at hl 4 rfl) ?_
      refine lv_if_ne (tgt := 57) hx hb dX13_side_50 (by decide) (fun c_3 => ?_) (fun c_3 => ?_)
      · skip
        have c_3' : w0_1.toInt ≠ 0 := jb_ne (rfl) ((by decide)) c_3
        refine lv_iconst (v := 1) hx hb dX13_side_57 (by decide) ?_
        refine lv_goto (tgt := 62) hx hb dX13_side_58 (by decide) ?_
        refine va_callv (A0 := jA base) (H0 := s.heap) (va_runV (As := [.int a1, .int 1]) (rest := []) ⟨hx, hb, hml, hown, hts⟩ (hP G0 H_2 r0 a1 1 pv zm zs zn za zb zc zy M fm C) (cwV 2 hts (jgV (jWr_71 _ (List.mem_of_getElem? (i := 5) rfl)) (jWr_71 _ (List.mem_of_getElem? (i := 6) rfl)) (jWr_71 _ (List.mem_of_getElem? (i := 7) rfl)) (jWr_12 _ (List.mem_of_getElem? (i := 12) rfl)) (jWr_71 _ (List.mem_of_getElem? (i := 8) rfl))) rfl rfl rfl (by decide +kernel) ⟨by rw [← hR]; show (3 * d + 10) + 1 ≤ 3 * d + 11; omega, by rw [← hR]; show 8 + (4 + 11) + (90 * d + 1000) ≤ 90 * d + 1040; omega⟩) ⟨fun a U g mk q => by obtain ⟨q0, q1, q2, qK, q10, q11, q12, q13, q14, q15, q16, q17, q18, q19, q20, q21⟩ := q; exact ⟨q0, q1, q2, jG.calling g mk a qK, q10, q11, q12, q13, q14, q15, q16, q17, q18, q19, q20, q21⟩, hh_2.recv (C := RX13) (T := TX13) (N := 50) hB15 rfl (by decide) hg_r0 hK, fun U hU hW => ⟨rfl, hU, hh_2.2.1, hG.step hW hU hh_2.1, hg_r0, (Or.inr rfl), hg_zm, hg_zs, hg_zn, hg_za, hg_zb, hg_zc, hg_zy, (hh_2.2.2.1.sub (L1 := [(r0, 15, 49, .int pv), (r0, 15, 48, .ref zm), (r0, 15, 0, .ref zs), (r0, 15, 1, .ref zn), (r0, 15, 2, .ref za), (r0, 15, 3, .ref zb), (r0, 15, 4, .ref zc), (r0, 15, 14, .ref zy)]) [0, 1, 2, 3, 4, 5, 6, 7] rfl), (hh_2.2.2.2.2.2.2.2.1.sub (L1 := [(zm, 164, 100, ca 1, fm), (zs, 150, 120000, ca 1, C.s), (zn, 151, 120000, ca 1, C.n), (za, 152, 120000, ca 1, C.a), (zb, 153, 120000, ca 1, C.b), (zc, 154, 120000, ca 1, C.c), (zy, 165, 16, ca 1, C.y)]) [0, 1, 2, 3, 4, 5, 6] rfl), ⟨(by first | assumption | exact hp0 | exact hp1 | omega), (by first | assumption | exact hp0 | exact hp1 | omega), (by first | omega | rfl | assumption | exact hp0 | exact hp1), (by first | omega | rfl | assumption | exact hp0 | exact hp1), (by first | omega | rfl | assumption | exact hp0 | exact hp1), (by first | omega | rfl | assumption | exact hp0 | exact hp1), (by first | omega | rfl | assumption | exact hp0 | exact hp1)⟩⟩⟩ rfl rfl hl.1 rfl (lv_room (Nat.le_of_ble_eq_true rfl)) dX13_side_62 ⟨Nat.zero_le _, Nat.zero_le _⟩) hh_2.1 (fun q _ h => h) (fun q h => h) (fun u_4 t_4 H_4 locs_4 ht_4 hvm_4 hr_5 hb_4 hz_4 hk_4 hS_4 => ?_)
        obtain ⟨qv_4, gm_4⟩ := u_4
        rw [ht_4] at hb_4
        obtain ⟨⟨hb_41, hb_42, hb_43, hb_44, hb_45⟩, hb_46⟩ := hb_4
        have hh_4 : jSt (dC, dI) B base G0 G0 EX13_side s.heap 0 0 [(r0, 15, 49, .int qv_4), (r0, 15, 48, .ref zm), (r0, 15, 0, .ref zs), (r0, 15, 1, .ref zn), (r0, 15, 2, .ref za), (r0, 15, 3, .ref zb), (r0, 15, 4, .ref zc), (r0, 15, 14, .ref zy)] [(zm, 164, 100, ca 1, gm_4), (zs, 150, 120000, ca 1, C.s), (zn, 151, 120000, ca 1, C.n), (za, 152, 120000, ca 1, C.a), (zb, 153, 120000, ca 1, C.b), (zc, 154, 120000, ca 1, C.c), (zy, 165, 16, ca 1, C.y)] [] H_4 locs_4 := ((hh_2.call hb_41 hb_42 hb_43 hb_44 hS_4 rfl (L1 := [(r0, 15, 48, .ref zm), (r0, 15, 0, .ref zs), (r0, 15, 1, .ref zn), (r0, 15, 2, .ref za), (r0, 15, 3, .ref zb), (r0, 15, 4, .ref zc), (r0, 15, 14, .ref zy)]) [1, 2, 3, 4, 5, 6, 7] rfl rfl (M1 := [(zs, 150, 120000, ca 1, C.s), (zn, 151, 120000, ca 1, C.n), (za, 152, 120000, ca 1, C.a), (zb, 153, 120000, ca 1, C.b), (zc, 154, 120000, ca 1, C.c), (zy, 165, 16, ca 1, C.y)]) [1, 2, 3, 4, 5, 6] rfl rfl (I1 := []) [] rfl rfl).more hb_45).moreM hb_46
        clear hh_2 ht_4 hvm_4 hz_4 hk_4 hS_4 hb_41 hb_42 hb_43 hb_44 hb_45
        clear hb_46
        try simp only at hr_5
        obtain ⟨hr_5_0, hr_5_1⟩ := hr_5
        refine lv_iload hx hb dX13_side_65 (lv_at hl 4 rfl) ?_
        refine lv_if_eq (tgt := 76) hx hb dX13_side_67 (by decide) (fun c_6 => ?_) (fun c_6 => ?_)
        · skip
          have c_6' : w0_1.toInt = 0 := jb_eq (rfl) ((by decide)) c_6
          exact (by omega : False).elim
        · skip
          have c_6' : w0_1.toInt ≠ 0 := jb_eq_n (rfl) ((by decide)) c_6
          refine lv_aload_n hx hb dX13_side_70 rfl (lv_at hl 0 rfl) ?_
          refine lv_bipush (v := 41) hx hb dX13_side_71 (by decide) ?_
          refine va_callv (A0 := jA base) (H0 := s.heap) (va_runV (As := [.int 41]) (rest := []) ⟨hx, hb, hml, hown, hts⟩ (uX13_put l dC dI ca base B hB hAp hB15 hB101 G0 H_4 r0 41) (cwV 1 hts (jgV (jWr_70 _ (List.mem_of_getElem? (i := 6) rfl)) (jWr_70 _ (List.mem_of_getElem? (i := 7) rfl)) (jWr_70 _ (List.mem_of_getElem? (i := 8) rfl)) (jWr_12 _ (List.mem_of_getElem? (i := 12) rfl)) (jWr_70 _ (List.mem_of_getElem? (i := 9) rfl))) rfl rfl rfl (by decide +kernel) ⟨by rw [← hR]; show (0) + 1 ≤ 3 * d + 11; omega, by rw [← hR]; show 8 + (2 + 11) + (0) ≤ 90 * d + 1040; omega⟩) ⟨fun a U g mk q => by obtain ⟨q0, q1, q2, qK, q10, q11, q12⟩ := q; exact ⟨q0, q1, q2, jG.calling g mk a qK, q10, q11, q12⟩, hh_4.recv (C := RX13) (T := TX13) (N := 50) hB15 rfl (by decide) hg_r0 hK, fun U hU hW => ⟨rfl, hU, hh_4.2.1, hG.step hW hU hh_4.1, hg_r0, jP.nil, trivial⟩⟩ rfl rfl hl.1 rfl (lv_room (Nat.le_of_ble_eq_true rfl)) dX13_side_73 ⟨Nat.zero_le _, Nat.zero_le _⟩) hh_4.1 (fun q _ h => h) (fun q h => h) (fun u_7 t_7 H_7 locs_7 ht_7 hvm_7 hr_8 hb_7 hz_7 hk_7 hS_7 => ?_)
          rw [ht_7] at hb_7
          obtain ⟨hb_71, hb_72, hb_73, hb_74, hb_75⟩ := hb_7
          have hh_7 : jSt (dC, dI) B base G0 G0 EX13_side s.heap 0 0 [(r0, 15, 49, .int qv_4), (r0, 15, 48, .ref zm), (r0, 15, 0, .ref zs), (r0, 15, 1, .ref zn), (r0, 15, 2, .ref za), (r0, 15, 3, .ref zb), (r0, 15, 4, .ref zc), (r0, 15, 14, .ref zy)] [(zm, 164, 100, ca 1, gm_4), (zs, 150, 120000, ca 1, C.s), (zn, 151, 120000, ca 1, C.n), (za, 152, 120000, ca 1, C.a), (zb, 153, 120000, ca 1, C.b), (zc, 154, 120000, ca 1, C.c), (zy, 165, 16, ca 1, C.y)] [] H_7 locs_7 := ((hh_4.call hb_71 hb_72 hb_73 hb_74 hS_7 rfl (L1 := [(r0, 15, 49, .int qv_4), (r0, 15, 48, .ref zm), (r0, 15, 0, .ref zs), (r0, 15, 1, .ref zn), (r0, 15, 2, .ref za), (r0, 15, 3, .ref zb), (r0, 15, 4, .ref zc), (r0, 15, 14, .ref zy)]) [0, 1, 2, 3, 4, 5, 6, 7] rfl rfl (M1 := [(zm, 164, 100, ca 1, gm_4), (zs, 150, 120000, ca 1, C.s), (zn, 151, 120000, ca 1, C.n), (za, 152, 120000, ca 1, C.a), (zb, 153, 120000, ca 1, C.b), (zc, 154, 120000, ca 1, C.c), (zy, 165, 16, ca 1, C.y)]) [0, 1, 2, 3, 4, 5, 6] rfl rfl (I1 := []) [] rfl rfl).more hb_75)
          clear hh_4 ht_7 hvm_7 hz_7 hk_7 hS_7 hb_71 hb_72 hb_73 hb_74 hb_75
          rw [hQ]
          exact W.vret hx hb hr (fun t ht hW => ⟨⟨(qv_4, gm_4), rfl, by (try dsimp only); exact ⟨by omega, hr_5_1⟩, ⟨hh_7.rt (M1 := [(r0, 15, 49, .int qv_4)]) [0] rfl ht, by rw [ht]; exact hh_7.2.2.2.2.2.2.2.1.sub [0] rfl⟩⟩, by rw [ht]; try exact hh_7.1.1, fun q h9 hq => by rw [ht]; try exact hh_7.1.2.1 q h9 hq⟩) hh_7.1.2.2 dX13_side_76
      · skip
        have c_3' : w0_1.toInt = 0 := jb_ne_n (rfl) ((by decide)) c_3
        refine lv_iload_n hx hb dX13_side_53 rfl (lv_at hl 3 rfl) ?_
        refine lv_if_eq (tgt := 61) hx hb dX13_side_54 (by decide) (fun c_9 => ?_) (fun c_9 => ?_)
        · skip
          have c_9' : a3.toInt = 0 := jb_eq (rfl) ((by decide)) c_9
          refine lv_iconst (v := 0) hx hb dX13_side_61 (by decide) ?_
          refine va_callv (A0 := jA base) (H0 := s.heap) (va_runV (As := [.int a1, .int 0]) (rest := []) ⟨hx, hb, hml, hown, hts⟩ (hP G0 H_2 r0 a1 0 pv zm zs zn za zb zc zy M fm C) (cwV 2 hts (jgV (jWr_71 _ (List.mem_of_getElem? (i := 5) rfl)) (jWr_71 _ (List.mem_of_getElem? (i := 6) rfl)) (jWr_71 _ (List.mem_of_getElem? (i := 7) rfl)) (jWr_12 _ (List.mem_of_getElem? (i := 12) rfl)) (jWr_71 _ (List.mem_of_getElem? (i := 8) rfl))) rfl rfl rfl (by decide +kernel) ⟨by rw [← hR]; show (3 * d + 10) + 1 ≤ 3 * d + 11; omega, by rw [← hR]; show 8 + (4 + 11) + (90 * d + 1000) ≤ 90 * d + 1040; omega⟩) ⟨fun a U g mk q => by obtain ⟨q0, q1, q2, qK, q10, q11, q12, q13, q14, q15, q16, q17, q18, q19, q20, q21⟩ := q; exact ⟨q0, q1, q2, jG.calling g mk a qK, q10, q11, q12, q13, q14, q15, q16, q17, q18, q19, q20, q21⟩, hh_2.recv (C := RX13) (T := TX13) (N := 50) hB15 rfl (by decide) hg_r0 hK, fun U hU hW => ⟨rfl, hU, hh_2.2.1, hG.step hW hU hh_2.1, hg_r0, (Or.inl rfl), hg_zm, hg_zs, hg_zn, hg_za, hg_zb, hg_zc, hg_zy, (hh_2.2.2.1.sub (L1 := [(r0, 15, 49, .int pv), (r0, 15, 48, .ref zm), (r0, 15, 0, .ref zs), (r0, 15, 1, .ref zn), (r0, 15, 2, .ref za), (r0, 15, 3, .ref zb), (r0, 15, 4, .ref zc), (r0, 15, 14, .ref zy)]) [0, 1, 2, 3, 4, 5, 6, 7] rfl), (hh_2.2.2.2.2.2.2.2.1.sub (L1 := [(zm, 164, 100, ca 1, fm), (zs, 150, 120000, ca 1, C.s), (zn, 151, 120000, ca 1, C.n), (za, 152, 120000, ca 1, C.a), (zb, 153, 120000, ca 1, C.b), (zc, 154, 120000, ca 1, C.c), (zy, 165, 16, ca 1, C.y)]) [0, 1, 2, 3, 4, 5, 6] rfl), ⟨(by first | assumption | exact hp0 | exact hp1 | omega), (by first | assumption | exact hp0 | exact hp1 | omega), (by first | omega | rfl | assumption | exact hp0 | exact hp1), (by first | omega | rfl | assumption | exact hp0 | exact hp1), (by first | omega | rfl | assumption | exact hp0 | exact hp1), (by first | omega | rfl | assumption | exact hp0 | exact hp1), (by first | omega | rfl | assumption | exact hp0 | exact hp1)⟩⟩⟩ rfl rfl hl.1 rfl (lv_room (Nat.le_of_ble_eq_true rfl)) dX13_side_62 ⟨Nat.zero_le _, Nat.zero_le _⟩) hh_2.1 (fun q _ h => h) (fun q h => h) (fun u_10 t_10 H_10 locs_10 ht_10 hvm_10 hr_11 hb_10 hz_10 hk_10 hS_10 => ?_)
          obtain ⟨qv_10, gm_10⟩ := u_10
          rw [ht_10] at hb_10
          obtain ⟨⟨hb_101, hb_102, hb_103, hb_104, hb_105⟩, hb_106⟩ := hb_10
          have hh_10 : jSt (dC, dI) B base G0 G0 EX13_side s.heap 0 0 [(r0, 15, 49, .int qv_10), (r0, 15, 48, .ref zm), (r0, 15, 0, .ref zs), (r0, 15, 1, .ref zn), (r0, 15, 2, .ref za), (r0, 15, 3, .ref zb), (r0, 15, 4, .ref zc), (r0, 15, 14, .ref zy)] [(zm, 164, 100, ca 1, gm_10), (zs, 150, 120000, ca 1, C.s), (zn, 151, 120000, ca 1, C.n), (za, 152, 120000, ca 1, C.a), (zb, 153, 120000, ca 1, C.b), (zc, 154, 120000, ca 1, C.c), (zy, 165, 16, ca 1, C.y)] [] H_10 locs_10 := ((hh_2.call hb_101 hb_102 hb_103 hb_104 hS_10 rfl (L1 := [(r0, 15, 48, .ref zm), (r0, 15, 0, .ref zs), (r0, 15, 1, .ref zn), (r0, 15, 2, .ref za), (r0, 15, 3, .ref zb), (r0, 15, 4, .ref zc), (r0, 15, 14, .ref zy)]) [1, 2, 3, 4, 5, 6, 7] rfl rfl (M1 := [(zs, 150, 120000, ca 1, C.s), (zn, 151, 120000, ca 1, C.n), (za, 152, 120000, ca 1, C.a), (zb, 153, 120000, ca 1, C.b), (zc, 154, 120000, ca 1, C.c), (zy, 165, 16, ca 1, C.y)]) [1, 2, 3, 4, 5, 6] rfl rfl (I1 := []) [] rfl rfl).more hb_105).moreM hb_106
          clear hh_2 ht_10 hvm_10 hz_10 hk_10 hS_10 hb_101 hb_102 hb_103 hb_104 hb_105
          clear hb_106
          try simp only at hr_11
          obtain ⟨hr_11_0, hr_11_1⟩ := hr_11
          refine lv_iload hx hb dX13_side_65 (lv_at hl 4 rfl) ?_
          refine lv_if_eq (tgt := 76) hx hb dX13_side_67 (by decide) (fun c_12 => ?_) (fun c_12 => ?_)
          · skip
            have c_12' : w0_1.toInt = 0 := jb_eq (rfl) ((by decide)) c_12
            rw [hQ]
            exact W.vret hx hb hr (fun t ht hW => ⟨⟨(qv_10, gm_10), rfl, by (try dsimp only); exact ⟨by omega, hr_11_1⟩, ⟨hh_10.rt (M1 := [(r0, 15, 49, .int qv_10)]) [0] rfl ht, by rw [ht]; exact hh_10.2.2.2.2.2.2.2.1.sub [0] rfl⟩⟩, by rw [ht]; try exact hh_10.1.1, fun q h9 hq => by rw [ht]; try exact hh_10.1.2.1 q h9 hq⟩) hh_10.1.2.2 dX13_side_76
          · skip
            have c_12' : w0_1.toInt ≠ 0 := jb_eq_n (rfl) ((by decide)) c_12
            exact (by omega : False).elim
        · skip
          have c_9' : a3.toInt ≠ 0 := jb_eq_n (rfl) ((by decide)) c_9
          refine lv_iconst (v := 1) hx hb dX13_side_57 (by decide) ?_
          refine lv_goto (tgt := 62) hx hb dX13_side_58 (by decide) ?_
          refine va_callv (A0 := jA base) (H0 := s.heap) (va_runV (As := [.int a1, .int 1]) (rest := []) ⟨hx, hb, hml, hown, hts⟩ (hP G0 H_2 r0 a1 1 pv zm zs zn za zb zc zy M fm C) (cwV 2 hts (jgV (jWr_71 _ (List.mem_of_getElem? (i := 5) rfl)) (jWr_71 _ (List.mem_of_getElem? (i := 6) rfl)) (jWr_71 _ (List.mem_of_getElem? (i := 7) rfl)) (jWr_12 _ (List.mem_of_getElem? (i := 12) rfl)) (jWr_71 _ (List.mem_of_getElem? (i := 8) rfl))) rfl rfl rfl (by decide +kernel) ⟨by rw [← hR]; show (3 * d + 10) + 1 ≤ 3 * d + 11; omega, by rw [← hR]; show 8 + (4 + 11) + (90 * d + 1000) ≤ 90 * d + 1040; omega⟩) ⟨fun a U g mk q => by obtain ⟨q0, q1, q2, qK, q10, q11, q12, q13, q14, q15, q16, q17, q18, q19, q20, q21⟩ := q; exact ⟨q0, q1, q2, jG.calling g mk a qK, q10, q11, q12, q13, q14, q15, q16, q17, q18, q19, q20, q21⟩, hh_2.recv (C := RX13) (T := TX13) (N := 50) hB15 rfl (by decide) hg_r0 hK, fun U hU hW => ⟨rfl, hU, hh_2.2.1, hG.step hW hU hh_2.1, hg_r0, (Or.inr rfl), hg_zm, hg_zs, hg_zn, hg_za, hg_zb, hg_zc, hg_zy, (hh_2.2.2.1.sub (L1 := [(r0, 15, 49, .int pv), (r0, 15, 48, .ref zm), (r0, 15, 0, .ref zs), (r0, 15, 1, .ref zn), (r0, 15, 2, .ref za), (r0, 15, 3, .ref zb), (r0, 15, 4, .ref zc), (r0, 15, 14, .ref zy)]) [0, 1, 2, 3, 4, 5, 6, 7] rfl), (hh_2.2.2.2.2.2.2.2.1.sub (L1 := [(zm, 164, 100, ca 1, fm), (zs, 150, 120000, ca 1, C.s), (zn, 151, 120000, ca 1, C.n), (za, 152, 120000, ca 1, C.a), (zb, 153, 120000, ca 1, C.b), (zc, 154, 120000, ca 1, C.c), (zy, 165, 16, ca 1, C.y)]) [0, 1, 2, 3, 4, 5, 6] rfl), ⟨(by first | assumption | exact hp0 | exact hp1 | omega), (by first | assumption | exact hp0 | exact hp1 | omega), (by first | omega | rfl | assumption | exact hp0 | exact hp1), (by first | omega | rfl | assumption | exact hp0 | exact hp1), (by first | omega | rfl | assumption | exact hp0 | exact hp1), (by first | omega | rfl | assumption | exact hp0 | exact hp1), (by first | omega | rfl | assumption | exact hp0 | exact hp1)⟩⟩⟩ rfl rfl hl.1 rfl (lv_room (Nat.le_of_ble_eq_true rfl)) dX13_side_62 ⟨Nat.zero_le _, Nat.zero_le _⟩) hh_2.1 (fun q _ h => h) (fun q h => h) (fun u_13 t_13 H_13 locs_13 ht_13 hvm_13 hr_14 hb_13 hz_13 hk_13 hS_13 => ?_)
          obtain ⟨qv_13, gm_13⟩ := u_13
          rw [ht_13] at hb_13
          obtain ⟨⟨hb_131, hb_132, hb_133, hb_134, hb_135⟩, hb_136⟩ := hb_13
          have hh_13 : jSt (dC, dI) B base G0 G0 EX13_side s.heap 0 0 [(r0, 15, 49, .int qv_13), (r0, 15, 48, .ref zm), (r0, 15, 0, .ref zs), (r0, 15, 1, .ref zn), (r0, 15, 2, .ref za), (r0, 15, 3, .ref zb), (r0, 15, 4, .ref zc), (r0, 15, 14, .ref zy)] [(zm, 164, 100, ca 1, gm_13), (zs, 150, 120000, ca 1, C.s), (zn, 151, 120000, ca 1, C.n), (za, 152, 120000, ca 1, C.a), (zb, 153, 120000, ca 1, C.b), (zc, 154, 120000, ca 1, C.c), (zy, 165, 16, ca 1, C.y)] [] H_13 locs_13 := ((hh_2.call hb_131 hb_132 hb_133 hb_134 hS_13 rfl (L1 := [(r0, 15, 48, .ref zm), (r0, 15, 0, .ref zs), (r0, 15, 1, .ref zn), (r0, 15, 2, .ref za), (r0, 15, 3, .ref zb), (r0, 15, 4, .ref zc), (r0, 15, 14, .ref zy)]) [1, 2, 3, 4, 5, 6, 7] rfl rfl (M1 := [(zs, 150, 120000, ca 1, C.s), (zn, 151, 120000, ca 1, C.n), (za, 152, 120000, ca 1, C.a), (zb, 153, 120000, ca 1, C.b), (zc, 154, 120000, ca 1, C.c), (zy, 165, 16, ca 1, C.y)]) [1, 2, 3, 4, 5, 6] rfl rfl (I1 := []) [] rfl rfl).more hb_135).moreM hb_136
          clear hh_2 ht_13 hvm_13 hz_13 hk_13 hS_13 hb_131 hb_132 hb_133 hb_134 hb_135
          clear hb_136
          try simp only at hr_14
          obtain ⟨hr_14_0, hr_14_1⟩ := hr_14
          refine lv_iload hx hb dX13_side_65 (lv_at hl 4 rfl) ?_
          refine lv_if_eq (tgt := 76) hx hb dX13_side_67 (by decide) (fun c_15 => ?_) (fun c_15 => ?_)
          · skip
            have c_15' : w0_1.toInt = 0 := jb_eq (rfl) ((by decide)) c_15
            rw [hQ]
            exact W.vret hx hb hr (fun t ht hW => ⟨⟨(qv_13, gm_13), rfl, by (try dsimp only); exact ⟨by omega, hr_14_1⟩, ⟨hh_13.rt (M1 := [(r0, 15, 49, .int qv_13)]) [0] rfl ht, by rw [ht]; exact hh_13.2.2.2.2.2.2.2.1.sub [0] rfl⟩⟩, by rw [ht]; try exact hh_13.1.1, fun q h9 hq => by rw [ht]; try exact hh_13.1.2.1 q h9 hq⟩) hh_13.1.2.2 dX13_side_76
          · skip
            have c_15' : w0_1.toInt ≠ 0 := jb_eq_n (rfl) ((by decide)) c_15
            exact (by omega : False).elim
    refine lv_if_eq (tgt := 46) hx hb dX13_side_37 (by decide) (fun c_16 => ?_) (fun c_16 => ?_)
    · skip
      have c_16' : w0_1.toInt = 0 := jb_eq (rfl) ((by decide)) c_16
      exact C46  _ _ hh_1 (trivial) _ (lv_sub hl [1, 2, 3, 4, 0] rfl)
    · skip
      have c_16' : w0_1.toInt ≠ 0 := jb_eq_n (rfl) ((by decide)) c_16
      refine lv_aload_n hx hb dX13_side_40 rfl (lv_at hl 1 rfl) ?_
      refine lv_bipush (v := 40) hx hb dX13_side_41 (by decide) ?_
      refine va_callv (A0 := jA base) (H0 := s.heap) (va_runV (As := [.int 40]) (rest := []) ⟨hx, hb, hml, hown, hts⟩ (uX13_put l dC dI ca base B hB hAp hB15 hB101 G0 H_1 r0 40) (cwV 1 hts (jgV (jWr_70 _ (List.mem_of_getElem? (i := 6) rfl)) (jWr_70 _ (List.mem_of_getElem? (i := 7) rfl)) (jWr_70 _ (List.mem_of_getElem? (i := 8) rfl)) (jWr_12 _ (List.mem_of_getElem? (i := 12) rfl)) (jWr_70 _ (List.mem_of_getElem? (i := 9) rfl))) rfl rfl rfl (by decide +kernel) ⟨by rw [← hR]; show (0) + 1 ≤ 3 * d + 11; omega, by rw [← hR]; show 8 + (2 + 11) + (0) ≤ 90 * d + 1040; omega⟩) ⟨fun a U g mk q => by obtain ⟨q0, q1, q2, qK, q10, q11, q12⟩ := q; exact ⟨q0, q1, q2, jG.calling g mk a qK, q10, q11, q12⟩, hh_1.recv (C := RX13) (T := TX13) (N := 50) hB15 rfl (by decide) hg_r0 hK, fun U hU hW => ⟨rfl, hU, hh_1.2.1, hG.step hW hU hh_1.1, hg_r0, jP.nil, trivial⟩⟩ rfl rfl hl.1 rfl (lv_room (Nat.le_of_ble_eq_true rfl)) dX13_side_43 ⟨Nat.zero_le _, Nat.zero_le _⟩) hh_1.1 (fun q _ h => h) (fun q h => h) (fun u_17 t_17 H_17 locs_17 ht_17 hvm_17 hr_18 hb_17 hz_17 hk_17 hS_17 => ?_)
      rw [ht_17] at hb_17
      obtain ⟨hb_171, hb_172, hb_173, hb_174, hb_175⟩ := hb_17
      have hh_17 : jSt (dC, dI) B base G0 G0 EX13_side s.heap 0 0 [(r0, 15, 49, .int pv), (r0, 15, 48, .ref zm), (r0, 15, 0, .ref zs), (r0, 15, 1, .ref zn), (r0, 15, 2, .ref za), (r0, 15, 3, .ref zb), (r0, 15, 4, .ref zc), (r0, 15, 14, .ref zy)] [(zm, 164, 100, ca 1, fm), (zs, 150, 120000, ca 1, C.s), (zn, 151, 120000, ca 1, C.n), (za, 152, 120000, ca 1, C.a), (zb, 153, 120000, ca 1, C.b), (zc, 154, 120000, ca 1, C.c), (zy, 165, 16, ca 1, C.y)] [] H_17 locs_17 := ((hh_1.call hb_171 hb_172 hb_173 hb_174 hS_17 rfl (L1 := [(r0, 15, 49, .int pv), (r0, 15, 48, .ref zm), (r0, 15, 0, .ref zs), (r0, 15, 1, .ref zn), (r0, 15, 2, .ref za), (r0, 15, 3, .ref zb), (r0, 15, 4, .ref zc), (r0, 15, 14, .ref zy)]) [0, 1, 2, 3, 4, 5, 6, 7] rfl rfl (M1 := [(zm, 164, 100, ca 1, fm), (zs, 150, 120000, ca 1, C.s), (zn, 151, 120000, ca 1, C.n), (za, 152, 120000, ca 1, C.a), (zb, 153, 120000, ca 1, C.b), (zc, 154, 120000, ca 1, C.c), (zy, 165, 16, ca 1, C.y)]) [0, 1, 2, 3, 4, 5, 6] rfl rfl (I1 := []) [] rfl rfl).more hb_175)
      clear hh_1 ht_17 hvm_17 hz_17 hk_17 hS_17 hb_171 hb_172 hb_173 hb_174 hb_175
      exact C46  _ _ hh_17 (trivial) _ (lv_sub hl [1, 2, 3, 4, 0] rfl)
  have C28 : ∀ (H_19 : Heap) (locs_19 : List Loc), jSt (dC, dI) B base G0 G0 EX13_side s.heap 0 0 [(r0, 15, 49, .int pv), (r0, 15, 48, .ref zm), (r0, 15, 0, .ref zs), (r0, 15, 1, .ref zn), (r0, 15, 2, .ref za), (r0, 15, 3, .ref zb), (r0, 15, 4, .ref zc), (r0, 15, 14, .ref zy)] [(zm, 164, 100, ca 1, fm), (zs, 150, 120000, ca 1, C.s), (zn, 151, 120000, ca 1, C.n), (za, 152, 120000, ca 1, C.a), (zb, 153, 120000, ca 1, C.b), (zc, 154, 120000, ca 1, C.c), (zy, 165, 16, ca 1, C.y)] [] H_19 locs_19 → (True) → ∀ ls : Array Slot, lv_has ls 5 [(0, .ref r0), (1, .int a1), (2, .int a2), (3, .int a3)] → W p l e R s m ([.ref r0, .int a1, .int a2, .int a3] : List Value).toArray below meth c H_19 locs_19 0 0 Q (F0 m 28 ls []) := by
    intro  H_19 locs_19 hh_19  hi_19 ls hl
    refine lv_iconst (v := 1) hx hb dX13_side_28 (by decide) ?_
    refine lv_goto (tgt := 33) hx hb dX13_side_29 (by decide) ?_
    exact C33 1 _ _ hh_19 (Or.inr rfl) (trivial) _ (lv_sub hl [0, 1, 2, 3] rfl)
  refine lv_if_ne (tgt := 28) hx hb dX13_side_1 (by decide) (fun c_20 => ?_) (fun c_20 => ?_)
  · skip
    have c_20' : a2.toInt ≠ 0 := jb_ne (rfl) ((by decide)) c_20
    exact C28  _ _ hh (trivial) _ (lv_sub hl [0, 1, 2, 3] rfl)
  · skip
    have c_20' : a2.toInt = 0 := jb_ne_n (rfl) ((by decide)) c_20
    refine lv_iload_n hx hb dX13_side_4 rfl (lv_at hl 3 rfl) ?_
    refine lv_if_ne (tgt := 32) hx hb dX13_side_5 (by decide) (fun c_21 => ?_) (fun c_21 => ?_)
    · skip
      have c_21' : a3.toInt ≠ 0 := jb_ne (rfl) ((by decide)) c_21
      refine lv_iconst (v := 0) hx hb dX13_side_32 (by decide) ?_
      exact C33 0 _ _ hh (Or.inl rfl) (trivial) _ (lv_sub hl [0, 1, 2, 3] rfl)
    · skip
      have c_21' : a3.toInt = 0 := jb_ne_n (rfl) ((by decide)) c_21
      refine lv_aload_n hx hb dX13_side_8 rfl (lv_at hl 0 rfl) ?_
      refine j7_read hx hb hown hK (C := RX13) (T := TX13) (N := 50) rfl hly_15_0 hlk_12 (hh.at 2 rfl) dX13_side_9 ?_
      refine lv_iload_n hx hb dX13_side_12 rfl (lv_at hl 1 rfl) ?_
      refine j7_ialdM hx hb hK hh hB150 1 rfl (by decide) hg_zs (x := a1.toInt) (rfl) (by omega) (j := 1) rfl dX13_side_13 (fun z_22 ez_22 (hz_22 : True) => ?_)
      have hqz_22 : z_22.toInt = jSo C.s (a1.toInt) := by unfold jSo; rw [ez_22]
      refine lv_iconst (v := 4) hx hb dX13_side_14 (by decide) ?_
      refine lv_icmp_eq (tgt := 28) hx hb dX13_side_15 (by decide) (fun c_23 => ?_) (fun c_23 => ?_)
      · skip
        have c_23' : z_22.toInt = 4 := jb_eq (rfl) ((by decide)) c_23
        exact C28  _ _ hh (trivial) _ (lv_sub hl [0, 1, 2, 3] rfl)
      · skip
        have c_23' : z_22.toInt ≠ 4 := jb_eq_n (rfl) ((by decide)) c_23
        refine lv_aload_n hx hb dX13_side_18 rfl (lv_at hl 0 rfl) ?_
        refine j7_read hx hb hown hK (C := RX13) (T := TX13) (N := 50) rfl hly_15_0 hlk_12 (hh.at 2 rfl) dX13_side_19 ?_
        refine lv_iload_n hx hb dX13_side_22 rfl (lv_at hl 1 rfl) ?_
        refine j7_ialdM hx hb hK hh hB150 1 rfl (by decide) hg_zs (x := a1.toInt) (rfl) (by omega) (j := 1) rfl dX13_side_23 (fun z_24 ez_24 (hz_24 : True) => ?_)
        have hqz_24 : z_24.toInt = jSo C.s (a1.toInt) := by unfold jSo; rw [ez_24]
        refine lv_iconst (v := 5) hx hb dX13_side_24 (by decide) ?_
        refine lv_icmp_ne (tgt := 32) hx hb dX13_side_25 (by decide) (fun c_25 => ?_) (fun c_25 => ?_)
        · skip
          have c_25' : z_24.toInt ≠ 5 := jb_ne (rfl) ((by decide)) c_25
          refine lv_iconst (v := 0) hx hb dX13_side_32 (by decide) ?_
          exact C33 0 _ _ hh (Or.inl rfl) (trivial) _ (lv_sub hl [0, 1, 2, 3] rfl)
        · skip
          have c_25' : z_24.toInt = 5 := jb_ne_n (rfl) ((by decide)) c_25
          exact C28  _ _ hh (trivial) _ (lv_sub hl [0, 1, 2, 3] rfl)
set_option maxHeartbeats 4000000 in
set_option maxRecDepth 20000 in
theorem uX13_applied (l : Launch) (dC : Nat → ClassId) (dI : Nat → Nat → Nat) (ca : Nat → ClassId) (base : Nat) (B : jF) (hB : jBok B) (hAp : jAp (dC, dI)) (hB15 : ∀ n G a H, B 15 n G a H ↔ jOb (dC, dI) 15 50 (F15 n G) a H) (hB101 : ∀ n G a H, B 101 n G a H ↔ jAr (dC, dI) (ca 1) (fun j z => True) n a H) (hB150 : ∀ n G a H, B 150 n G a H ↔ jAr (dC, dI) (ca 1) (fun j z => True) n a H) (hB151 : ∀ n G a H, B 151 n G a H ↔ jAr (dC, dI) (ca 1) (fun j z => True) n a H) (hB152 : ∀ n G a H, B 152 n G a H ↔ jAr (dC, dI) (ca 1) (fun j z => True) n a H) (hB153 : ∀ n G a H, B 153 n G a H ↔ jAr (dC, dI) (ca 1) (fun j z => True) n a H) (hB154 : ∀ n G a H, B 154 n G a H ↔ jAr (dC, dI) (ca 1) (fun j z => True) n a H) (hB155 : ∀ n G a H, B 155 n G a H ↔ jAr (dC, dI) (ca 1) (fun j z => 0 ≤ z.toInt ∧ z.toInt ≤ 11990) n a H) (hB156 : ∀ n G a H, B 156 n G a H ↔ jAr (dC, dI) (ca 1) (fun j z => 0 ≤ z.toInt ∧ z.toInt ≤ 10) n a H) (hB163 : ∀ n G a H, B 163 n G a H ↔ jAr (dC, dI) (ca 1) (fun j z => 0 ≤ z.toInt ∧ z.toInt ≤ 1599) n a H) (hB164 : ∀ n G a H, B 164 n G a H ↔ jAr (dC, dI) (ca 1) (fun j z => 0 ≤ z.toInt ∧ z.toInt ≤ 100000) n a H) (hB165 : ∀ n G a H, B 165 n G a H ↔ jAr (dC, dI) (ca 1) (fun j z => 0 ≤ z.toInt ∧ z.toInt ≤ 3) n a H) (hB166 : ∀ n G a H, B 166 n G a H ↔ jAr (dC, dI) (ca 1) (fun j z => True) n a H) (d : Nat) (ih : ∀ e1, e1 < d → qX13_print l dC dI ca base B e1) (G0 : jT) (H0 : Heap) (r0 : Nat) (a1 : Int32) (pv : Int32) (zm : Nat) (zs : Nat) (zn : Nat) (za : Nat) (zb : Nat) (zc : Nat) (zy : Nat) (M : Int) (fm : Nat → Int32) (C : jK) : Met l yX13_applied (jw yX13_applied cX13_applied 4 none) ({ frames := 3 * d + 8, cells := 0, slots := 0, locals := 90 * d + 960 }) (va_Pc [.ref r0, .int a1] (fun U => U.heap = H0 ∧ jX B base G0 [] H0 ∧ jG dC dI ca base U ∧ G0 r0 = some (15, 0) ∧ G0 zm = some (164, 100) ∧ G0 zs = some (150, 120000) ∧ G0 zn = some (151, 120000) ∧ G0 za = some (152, 120000) ∧ G0 zb = some (153, 120000) ∧ G0 zc = some (154, 120000) ∧ G0 zy = some (165, 16) ∧ jP (dC, dI) G0 H0 [(r0, 15, 49, .int pv), (r0, 15, 48, .ref zm), (r0, 15, 0, .ref zs), (r0, 15, 1, .ref zn), (r0, 15, 2, .ref za), (r0, 15, 3, .ref zb), (r0, 15, 4, .ref zc), (r0, 15, 14, .ref zy)] ∧ jMc (dC, dI) G0 H0 [(zm, 164, 100, ca 1, fm), (zs, 150, 120000, ca 1, C.s), (zn, 151, 120000, ca 1, C.n), (za, 152, 120000, ca 1, C.a), (zb, 153, 120000, ca 1, C.b), (zc, 154, 120000, ca 1, C.c), (zy, 165, 16, ca 1, C.y)] ∧ jFm C 120000 16 d pv.toInt a1.toInt ∧ jMx fm pv.toInt M ∧ 0 ≤ pv.toInt ∧ pv.toInt + d ≤ 99 ∧ 0 ≤ M ∧ M + 11 * d ≤ 90000 ∧ d ≤ 80 ∧ 7 ≤ jSo C.s a1.toInt ∧ jSo C.s a1.toInt ≤ 8)) (va_Qv (S := Int32 × (Nat → Int32)) (fun u => u.1.toInt = pv.toInt ∧ jEqK fm u.2 pv.toInt) (fun u t => jRt (dC, dI) B base G0 EX13_applied H0 [(r0, 15, 49, .int u.1)] t.heap ∧ jMc (dC, dI) G0 t.heap [(zm, 164, 100, ca 1, u.2)]) (jA base)) 0 0 (jA base) := by
  refine Met.ofW (cc := cX13_applied) (maxL := 4) (ret := none) (by decide) rfl ?_
  intro p e s m args below meth c s₁ Bd hml hv
  obtain ⟨rfl, hH0, hX, hG, hg_r0, hg_zm, hg_zs, hg_zn, hg_za, hg_zb, hg_zc, hg_zy, hP0, hM0, hp0, hp1, hp2, hp3, hp4, hp5, hp6, hp7, hp8⟩ := hv
  have hK := hG.1
  have hx := Bd.exec
  have hb := Bd.bytes
  have hr := Bd.returns
  have hts := atoms_spec (ws := (jw yX13_applied cX13_applied 4 none)) Bd.pre
  have htw : ∀ w ∈ jWl, w.before _ s = true := fun w h => hts w (List.mem_cons_of_mem _ h)
  have hown : s.vm.findClass RX13 = some m.cls := findClass_of_methodNamed Bd.named
  have hlocks := Bd.notSynchronized
  obtain ⟨Q, hQ⟩ : ∃ Q, Q = MQ below (va_Qv (S := Int32 × (Nat → Int32)) (fun u => u.1.toInt = pv.toInt ∧ jEqK fm u.2 pv.toInt) (fun u t => jRt (dC, dI) B base G0 EX13_applied H0 [(r0, 15, 49, .int u.1)] t.heap ∧ jMc (dC, dI) G0 t.heap [(zm, 164, 100, ca 1, u.2)]) (jA base)) ([.ref r0, .int a1] : List Value).toArray s 0 0 (jA base) := ⟨_, rfl⟩
  rw [← hQ]
  have hl := lv_entry ([.ref r0, .int a1]) (n := 4) (Nat.le_of_ble_eq_true rfl)
  rw [lg_entry_eq]
  generalize (lg_sl ([.ref r0, .int a1]) ++ List.replicate (4 - (lg_sl ([.ref r0, .int a1])).length) Slot.unset).toArray = ls at hl ⊢
  have hl : lv_has ls 4 [(0, .ref r0), (1, .int a1)] := hl
  generalize hR : (headSpec (jw yX13_applied cX13_applied 4 none) ({ frames := 3 * d + 8, cells := 0, slots := 0, locals := 90 * d + 960 })).room = R
  subst hH0
  have hh : jSt (dC, dI) B base G0 G0 EX13_applied s.heap 0 0 [(r0, 15, 49, .int pv), (r0, 15, 48, .ref zm), (r0, 15, 0, .ref zs), (r0, 15, 1, .ref zn), (r0, 15, 2, .ref za), (r0, 15, 3, .ref zb), (r0, 15, 4, .ref zc), (r0, 15, 14, .ref zy)] [(zm, 164, 100, ca 1, fm), (zs, 150, 120000, ca 1, C.s), (zn, 151, 120000, ca 1, C.n), (za, 152, 120000, ca 1, C.a), (zb, 153, 120000, ca 1, C.b), (zc, 154, 120000, ca 1, C.c), (zy, 165, 16, ca 1, C.y)] [] s.heap [] := jSt.start hX hP0 hM0 jIs.nil
  clear hX hP0
  have hk0 : (0 : Int32).toInt = 0 := by decide
  have hk1 : (1 : Int32).toInt = 1 := by decide
  have hk40 : (40 : Int32).toInt = 40 := by decide
  have hk41 : (41 : Int32).toInt = 41 := by decide
  have hly_15_1 := htw (u_lay RX13 TX13 1) (jWc_wsX130 _ (u_in_lay (by decide)))
  have hly_15_12 := htw (u_lay RX13 TX13 12) (jWc_wsX130 _ (u_in_lay (by decide)))
  have hlk_37 := (htw (.fieldLink RX13 37 "ProofServerModel$Kernel" "symbol" "[I") (jWr_14 _ (List.mem_of_getElem? (i := 17) rfl)))
  have hlk_16 := (htw (.fieldLink RX13 16 "ProofServerModel$Kernel" "name" "[I") (jWr_14 _ (List.mem_of_getElem? (i := 10) rfl)))
  obtain ⟨str427, rstr427, hstr4270⟩ := hG.str (o := RX13) (k := 427) (tx := ", ") (List.mem_of_getElem? (i := 2863) (by decide +kernel))
  have hstr427 : jStr base str427 2 s s.heap := hstr4270
  have hrg_a1 := jb_rng a1
  have hnd := hp0.nd
  obtain ⟨g1, g2, g3, g4, g5, g6, g7, g8, g9⟩ := hnd
  have hpos := hp0.pos
  have n5 := g5 (by omega)
  have hq0 := (jQf_ok C a1.toInt).2.1 (by omega)
  obtain ⟨fm0, hfm0⟩ : ∃ z, z = fm := ⟨_, rfl⟩
  refine lv_aload_n hx hb dX13_applied_0 rfl (lv_at hl 0 rfl) ?_
  refine lv_aload_n hx hb dX13_applied_1 rfl (lv_at hl 0 rfl) ?_
  obtain ⟨v_1, hv_1, hh_2⟩ := hh.pin (C := RX13) (T := TX13) (N := 50) hB15 rfl (by decide) hg_r0 (i := 12) (by decide) rfl
  clear hh
  obtain ⟨symbol_3, rfl, hg_symbol_3⟩ := hv_1
  refine j7_read hx hb hown hK (C := RX13) (T := TX13) (N := 50) rfl hly_15_12 hlk_37 (hh_2.at 0 rfl) dX13_applied_2 ?_
  refine lv_aload_n hx hb dX13_applied_5 rfl (lv_at hl 0 rfl) ?_
  refine j7_read hx hb hown hK (C := RX13) (T := TX13) (N := 50) rfl hly_15_1 hlk_16 (hh_2.at 4 rfl) dX13_applied_6 ?_
  refine lv_iload_n hx hb dX13_applied_9 rfl (lv_at hl 1 rfl) ?_
  refine j7_ialdM hx hb hK hh_2 hB151 1 rfl (by decide) hg_zn (x := a1.toInt) (rfl) (by omega) (j := 2) rfl dX13_applied_10 (fun z_4 ez_4 (hz_4 : True) => ?_)
  have hqz_4 : z_4.toInt = jSo C.n (a1.toInt) := by unfold jSo; rw [ez_4]
  refine j7_iald hx hb hK hh_2 hB163 1 rfl (by decide) hg_symbol_3 (x := z_4.toInt) (rfl) (by omega) dX13_applied_11 (fun z_5 (hz_5 : 0 ≤ z_5.toInt ∧ z_5.toInt ≤ 1599) => ?_)
  refine va_callv (A0 := jA base) (H0 := s.heap) (va_runV (As := [.int z_5]) (rest := []) ⟨hx, hb, hml, hown, hts⟩ (uX13_putName l dC dI ca base B hB hAp hB15 hB101 hB155 hB156 hB166 G0 s.heap r0 z_5) (cwV 1 hts (jgV (jWr_70 _ (List.mem_of_getElem? (i := 19) rfl)) (jWr_70 _ (List.mem_of_getElem? (i := 3) rfl)) (jWr_70 _ (List.mem_of_getElem? (i := 4) rfl)) (jWr_12 _ (List.mem_of_getElem? (i := 12) rfl)) (jWr_70 _ (List.mem_of_getElem? (i := 5) rfl))) rfl rfl rfl (by decide +kernel) ⟨by rw [← hR]; show (1) + 1 ≤ 3 * d + 8; omega, by rw [← hR]; show 8 + (3 + 11) + (21) ≤ 90 * d + 960; omega⟩) ⟨fun a U g mk q => by obtain ⟨q0, q1, q2, qK, q10, q11, q12⟩ := q; exact ⟨q0, q1, q2, jG.calling g mk a qK, q10, q11, q12⟩, hh_2.recv (C := RX13) (T := TX13) (N := 50) hB15 rfl (by decide) hg_r0 hK, fun U hU hW => ⟨rfl, hU, hh_2.2.1, hG.step hW hU hh_2.1, hg_r0, jP.nil, by first | omega | (refine ⟨?_, ?_⟩ <;> (first | omega | rfl | assumption | decide | exact Or.inl rfl | exact Or.inr rfl | (simp only; omega)))⟩⟩ rfl rfl hl.1 rfl (lv_room (Nat.le_of_ble_eq_true rfl)) dX13_applied_12 ⟨Nat.zero_le _, Nat.zero_le _⟩) hh_2.1 (fun q _ h => h) (fun q h => h) (fun u_6 t_6 H_6 locs_6 ht_6 hvm_6 hr_7 hb_6 hz_6 hk_6 hS_6 => ?_)
  rw [ht_6] at hb_6
  obtain ⟨hb_61, hb_62, hb_63, hb_64, hb_65⟩ := hb_6
  have hh_6 : jSt (dC, dI) B base G0 G0 EX13_applied s.heap 0 0 [(r0, 15, 12, .ref symbol_3), (r0, 15, 49, .int pv), (r0, 15, 48, .ref zm), (r0, 15, 0, .ref zs), (r0, 15, 1, .ref zn), (r0, 15, 2, .ref za), (r0, 15, 3, .ref zb), (r0, 15, 4, .ref zc), (r0, 15, 14, .ref zy)] [(zm, 164, 100, ca 1, fm), (zs, 150, 120000, ca 1, C.s), (zn, 151, 120000, ca 1, C.n), (za, 152, 120000, ca 1, C.a), (zb, 153, 120000, ca 1, C.b), (zc, 154, 120000, ca 1, C.c), (zy, 165, 16, ca 1, C.y)] [] H_6 locs_6 := ((hh_2.call hb_61 hb_62 hb_63 hb_64 hS_6 rfl (L1 := [(r0, 15, 12, .ref symbol_3), (r0, 15, 49, .int pv), (r0, 15, 48, .ref zm), (r0, 15, 0, .ref zs), (r0, 15, 1, .ref zn), (r0, 15, 2, .ref za), (r0, 15, 3, .ref zb), (r0, 15, 4, .ref zc), (r0, 15, 14, .ref zy)]) [0, 1, 2, 3, 4, 5, 6, 7, 8] rfl rfl (M1 := [(zm, 164, 100, ca 1, fm), (zs, 150, 120000, ca 1, C.s), (zn, 151, 120000, ca 1, C.n), (za, 152, 120000, ca 1, C.a), (zb, 153, 120000, ca 1, C.b), (zc, 154, 120000, ca 1, C.c), (zy, 165, 16, ca 1, C.y)]) [0, 1, 2, 3, 4, 5, 6] rfl rfl (I1 := []) [] rfl rfl).more hb_65)
  clear hh_2 ht_6 hvm_6 hz_6 hk_6 hS_6 hb_61 hb_62 hb_63 hb_64 hb_65
  refine lv_aload_n hx hb dX13_applied_15 rfl (lv_at hl 0 rfl) ?_
  refine lv_iload_n hx hb dX13_applied_16 rfl (lv_at hl 1 rfl) ?_
  refine va_calli (A0 := jA base) (H0 := s.heap) (va_runV (As := [.int a1]) (rest := []) ⟨hx, hb, hml, hown, hts⟩ (uX13_parts l dC dI ca base B hB hAp hB15 hB150 hB151 hB152 hB153 hB154 hB165 G0 H_6 r0 a1 zs zn za zb zc zy C) (cwV 1 hts (jgV (jWr_65 _ (List.mem_of_getElem? (i := 15) rfl)) (jWr_65 _ (List.mem_of_getElem? (i := 16) rfl)) (jWr_65 _ (List.mem_of_getElem? (i := 17) rfl)) (jWr_12 _ (List.mem_of_getElem? (i := 12) rfl)) (jWr_65 _ (List.mem_of_getElem? (i := 18) rfl))) rfl rfl rfl (by decide +kernel) ⟨by rw [← hR]; show (0) + 1 ≤ 3 * d + 8; omega, by rw [← hR]; show 8 + (3 + 11) + (0) ≤ 90 * d + 960; omega⟩) ⟨fun a U g mk q => by obtain ⟨q0, q1, q2, qK, q10, q11, q12, q13, q14, q15, q16, q17, q18, q19⟩ := q; exact ⟨q0, q1, q2, jG.calling g mk a qK, q10, q11, q12, q13, q14, q15, q16, q17, q18, q19⟩, hh_6.recv (C := RX13) (T := TX13) (N := 50) hB15 rfl (by decide) hg_r0 hK, fun U hU hW => ⟨rfl, hU, hh_6.2.1, hG.step hW hU hh_6.1, hg_r0, hg_zs, hg_zn, hg_za, hg_zb, hg_zc, hg_zy, (hh_6.2.2.1.sub (L1 := [(r0, 15, 0, .ref zs), (r0, 15, 1, .ref zn), (r0, 15, 2, .ref za), (r0, 15, 3, .ref zb), (r0, 15, 4, .ref zc), (r0, 15, 14, .ref zy)]) [3, 4, 5, 6, 7, 8] rfl), (hh_6.2.2.2.2.2.2.2.1.sub (L1 := [(zs, 150, 120000, ca 1, C.s), (zn, 151, 120000, ca 1, C.n), (za, 152, 120000, ca 1, C.a), (zb, 153, 120000, ca 1, C.b), (zc, 154, 120000, ca 1, C.c), (zy, 165, 16, ca 1, C.y)]) [1, 2, 3, 4, 5, 6] rfl), ⟨(by first | omega | rfl | assumption | exact hp0.sym (by omega)), (by first | omega | rfl | assumption | exact hp0.sym (by omega)), (by first | assumption | exact hp0.sym (by omega) | omega)⟩⟩⟩ rfl rfl hl.1 rfl (lv_room (Nat.le_of_ble_eq_true rfl)) dX13_applied_17 ⟨Nat.zero_le _, Nat.zero_le _⟩) hh_6.1 (fun q _ h => h) (fun q h => h) (fun r_9 u_8 t_8 H_8 locs_8 ht_8 hvm_8 hr_9 hb_8 hz_8 hk_8 hS_8 => ?_)
  rw [ht_8] at hb_8
  obtain ⟨hb_81, hb_82, hb_83, hb_84, hb_85⟩ := hb_8
  have hh_8 : jSt (dC, dI) B base G0 G0 EX13_applied s.heap 0 0 [(r0, 15, 12, .ref symbol_3), (r0, 15, 49, .int pv), (r0, 15, 48, .ref zm), (r0, 15, 0, .ref zs), (r0, 15, 1, .ref zn), (r0, 15, 2, .ref za), (r0, 15, 3, .ref zb), (r0, 15, 4, .ref zc), (r0, 15, 14, .ref zy)] [(zm, 164, 100, ca 1, fm), (zs, 150, 120000, ca 1, C.s), (zn, 151, 120000, ca 1, C.n), (za, 152, 120000, ca 1, C.a), (zb, 153, 120000, ca 1, C.b), (zc, 154, 120000, ca 1, C.c), (zy, 165, 16, ca 1, C.y)] [] H_8 locs_8 := ((hh_6.call hb_81 hb_82 hb_83 hb_84 hS_8 rfl (L1 := [(r0, 15, 12, .ref symbol_3), (r0, 15, 49, .int pv), (r0, 15, 48, .ref zm), (r0, 15, 0, .ref zs), (r0, 15, 1, .ref zn), (r0, 15, 2, .ref za), (r0, 15, 3, .ref zb), (r0, 15, 4, .ref zc), (r0, 15, 14, .ref zy)]) [0, 1, 2, 3, 4, 5, 6, 7, 8] rfl rfl (M1 := [(zm, 164, 100, ca 1, fm), (zs, 150, 120000, ca 1, C.s), (zn, 151, 120000, ca 1, C.n), (za, 152, 120000, ca 1, C.a), (zb, 153, 120000, ca 1, C.b), (zc, 154, 120000, ca 1, C.c), (zy, 165, 16, ca 1, C.y)]) [0, 1, 2, 3, 4, 5, 6] rfl rfl (I1 := []) [] rfl rfl).more hb_85)
  clear hh_6 ht_8 hvm_8 hz_8 hk_8 hS_8 hb_81 hb_82 hb_83 hb_84 hb_85
  obtain ⟨hr_9_0, hr_9_1, hr_9_2⟩ := hr_9
  refine lv_istore_n (lv' := [(2, .int r_9), (0, .ref r0), (1, .int a1)]) hx hb dX13_applied_20 rfl hl (by decide) rfl (fun ls hl => ?_)
  refine lv_iload_n hx hb dX13_applied_21 rfl (lv_at hl 0 rfl) ?_
  refine lv_if_ne (tgt := 26) hx hb dX13_applied_22 (by decide) (fun c_10 => ?_) (fun c_10 => ?_)
  · skip
    have c_10' : r_9.toInt ≠ 0 := jb_ne (rfl) ((by decide)) c_10
    refine lv_aload_n hx hb dX13_applied_26 rfl (lv_at hl 1 rfl) ?_
    refine lv_bipush (v := 40) hx hb dX13_applied_27 (by decide) ?_
    refine va_callv (A0 := jA base) (H0 := s.heap) (va_runV (As := [.int 40]) (rest := []) ⟨hx, hb, hml, hown, hts⟩ (uX13_put l dC dI ca base B hB hAp hB15 hB101 G0 H_8 r0 40) (cwV 1 hts (jgV (jWr_70 _ (List.mem_of_getElem? (i := 6) rfl)) (jWr_70 _ (List.mem_of_getElem? (i := 7) rfl)) (jWr_70 _ (List.mem_of_getElem? (i := 8) rfl)) (jWr_12 _ (List.mem_of_getElem? (i := 12) rfl)) (jWr_70 _ (List.mem_of_getElem? (i := 9) rfl))) rfl rfl rfl (by decide +kernel) ⟨by rw [← hR]; show (0) + 1 ≤ 3 * d + 8; omega, by rw [← hR]; show 8 + (2 + 11) + (0) ≤ 90 * d + 960; omega⟩) ⟨fun a U g mk q => by obtain ⟨q0, q1, q2, qK, q10, q11, q12⟩ := q; exact ⟨q0, q1, q2, jG.calling g mk a qK, q10, q11, q12⟩, hh_8.recv (C := RX13) (T := TX13) (N := 50) hB15 rfl (by decide) hg_r0 hK, fun U hU hW => ⟨rfl, hU, hh_8.2.1, hG.step hW hU hh_8.1, hg_r0, jP.nil, trivial⟩⟩ rfl rfl hl.1 rfl (lv_room (Nat.le_of_ble_eq_true rfl)) dX13_applied_29 ⟨Nat.zero_le _, Nat.zero_le _⟩) hh_8.1 (fun q _ h => h) (fun q h => h) (fun u_11 t_11 H_11 locs_11 ht_11 hvm_11 hr_12 hb_11 hz_11 hk_11 hS_11 => ?_)
    rw [ht_11] at hb_11
    obtain ⟨hb_111, hb_112, hb_113, hb_114, hb_115⟩ := hb_11
    have hh_11 : jSt (dC, dI) B base G0 G0 EX13_applied s.heap 0 0 [(r0, 15, 12, .ref symbol_3), (r0, 15, 49, .int pv), (r0, 15, 48, .ref zm), (r0, 15, 0, .ref zs), (r0, 15, 1, .ref zn), (r0, 15, 2, .ref za), (r0, 15, 3, .ref zb), (r0, 15, 4, .ref zc), (r0, 15, 14, .ref zy)] [(zm, 164, 100, ca 1, fm), (zs, 150, 120000, ca 1, C.s), (zn, 151, 120000, ca 1, C.n), (za, 152, 120000, ca 1, C.a), (zb, 153, 120000, ca 1, C.b), (zc, 154, 120000, ca 1, C.c), (zy, 165, 16, ca 1, C.y)] [] H_11 locs_11 := ((hh_8.call hb_111 hb_112 hb_113 hb_114 hS_11 rfl (L1 := [(r0, 15, 12, .ref symbol_3), (r0, 15, 49, .int pv), (r0, 15, 48, .ref zm), (r0, 15, 0, .ref zs), (r0, 15, 1, .ref zn), (r0, 15, 2, .ref za), (r0, 15, 3, .ref zb), (r0, 15, 4, .ref zc), (r0, 15, 14, .ref zy)]) [0, 1, 2, 3, 4, 5, 6, 7, 8] rfl rfl (M1 := [(zm, 164, 100, ca 1, fm), (zs, 150, 120000, ca 1, C.s), (zn, 151, 120000, ca 1, C.n), (za, 152, 120000, ca 1, C.a), (zb, 153, 120000, ca 1, C.b), (zc, 154, 120000, ca 1, C.c), (zy, 165, 16, ca 1, C.y)]) [0, 1, 2, 3, 4, 5, 6] rfl rfl (I1 := []) [] rfl rfl).more hb_115)
    clear hh_8 ht_11 hvm_11 hz_11 hk_11 hS_11 hb_111 hb_112 hb_113 hb_114 hb_115
    refine lv_iconst (v := 0) hx hb dX13_applied_32 (by decide) ?_
    refine lv_istore_n (lv' := [(3, .int 0), (2, .int r_9), (0, .ref r0), (1, .int a1)]) hx hb dX13_applied_33 rfl hl (by decide) rfl (fun ls hl => ?_)
    have L34 : ∀ (N : Nat) (v3_13 : Int32) (wv_13 : Int32) (fm_13 : Nat → Int32) (H_13 : Heap) (locs_13 : List Loc), jSt (dC, dI) B base G0 G0 EX13_applied s.heap 0 0 [(r0, 15, 49, .int wv_13), (r0, 15, 12, .ref symbol_3), (r0, 15, 48, .ref zm), (r0, 15, 0, .ref zs), (r0, 15, 1, .ref zn), (r0, 15, 2, .ref za), (r0, 15, 3, .ref zb), (r0, 15, 4, .ref zc), (r0, 15, 14, .ref zy)] [(zm, 164, 100, ca 1, fm_13), (zs, 150, 120000, ca 1, C.s), (zn, 151, 120000, ca 1, C.n), (za, 152, 120000, ca 1, C.a), (zb, 153, 120000, ca 1, C.b), (zc, 154, 120000, ca 1, C.c), (zy, 165, 16, ca 1, C.y)] [] H_13 locs_13 → (0 ≤ v3_13.toInt ∧ v3_13.toInt ≤ jPts C a1.toInt ∧ wv_13.toInt = pv.toInt ∧ jEqK fm0 fm_13 pv.toInt) → (3 - v3_13.toInt : Int) < N → ∀ ls : Array Slot, lv_has ls 4 [(0, .ref r0), (1, .int a1), (2, .int r_9), (3, .int v3_13)] → W p l e R s m ([.ref r0, .int a1] : List Value).toArray below meth c H_13 locs_13 0 0 Q (F0 m 34 ls []) := by
      intro N
      induction N with
      | zero => intro v3_13 wv_13 fm_13 H_13 locs_13 hh_13  hi_13 hm; exact absurd hm (by omega)
      | succ N L34 =>
        intro v3_13 wv_13 fm_13 H_13 locs_13 hh_13  hi_13 hm_13 ls hl
        obtain ⟨hi_13_0, hi_13_1, hi_13_2, hi_13_3⟩ := hi_13
        refine lv_iload_n hx hb dX13_applied_34 rfl (lv_at hl 3 rfl) ?_
        refine lv_iload_n hx hb dX13_applied_35 rfl (lv_at hl 2 rfl) ?_
        refine lv_icmp_ge (tgt := 67) hx hb dX13_applied_36 (by decide) (fun c_14 => ?_) (fun c_14 => ?_)
        · skip
          have c_14' : v3_13.toInt ≥ r_9.toInt := jb_ge (rfl) (rfl) c_14
          refine lv_aload_n hx hb dX13_applied_67 rfl (lv_at hl 0 rfl) ?_
          refine lv_bipush (v := 41) hx hb dX13_applied_68 (by decide) ?_
          refine va_callv (A0 := jA base) (H0 := s.heap) (va_runV (As := [.int 41]) (rest := []) ⟨hx, hb, hml, hown, hts⟩ (uX13_put l dC dI ca base B hB hAp hB15 hB101 G0 H_13 r0 41) (cwV 1 hts (jgV (jWr_70 _ (List.mem_of_getElem? (i := 6) rfl)) (jWr_70 _ (List.mem_of_getElem? (i := 7) rfl)) (jWr_70 _ (List.mem_of_getElem? (i := 8) rfl)) (jWr_12 _ (List.mem_of_getElem? (i := 12) rfl)) (jWr_70 _ (List.mem_of_getElem? (i := 9) rfl))) rfl rfl rfl (by decide +kernel) ⟨by rw [← hR]; show (0) + 1 ≤ 3 * d + 8; omega, by rw [← hR]; show 8 + (2 + 11) + (0) ≤ 90 * d + 960; omega⟩) ⟨fun a U g mk q => by obtain ⟨q0, q1, q2, qK, q10, q11, q12⟩ := q; exact ⟨q0, q1, q2, jG.calling g mk a qK, q10, q11, q12⟩, hh_13.recv (C := RX13) (T := TX13) (N := 50) hB15 rfl (by decide) hg_r0 hK, fun U hU hW => ⟨rfl, hU, hh_13.2.1, hG.step hW hU hh_13.1, hg_r0, jP.nil, trivial⟩⟩ rfl rfl hl.1 rfl (lv_room (Nat.le_of_ble_eq_true rfl)) dX13_applied_70 ⟨Nat.zero_le _, Nat.zero_le _⟩) hh_13.1 (fun q _ h => h) (fun q h => h) (fun u_15 t_15 H_15 locs_15 ht_15 hvm_15 hr_16 hb_15 hz_15 hk_15 hS_15 => ?_)
          rw [ht_15] at hb_15
          obtain ⟨hb_151, hb_152, hb_153, hb_154, hb_155⟩ := hb_15
          have hh_15 : jSt (dC, dI) B base G0 G0 EX13_applied s.heap 0 0 [(r0, 15, 49, .int wv_13), (r0, 15, 12, .ref symbol_3), (r0, 15, 48, .ref zm), (r0, 15, 0, .ref zs), (r0, 15, 1, .ref zn), (r0, 15, 2, .ref za), (r0, 15, 3, .ref zb), (r0, 15, 4, .ref zc), (r0, 15, 14, .ref zy)] [(zm, 164, 100, ca 1, fm_13), (zs, 150, 120000, ca 1, C.s), (zn, 151, 120000, ca 1, C.n), (za, 152, 120000, ca 1, C.a), (zb, 153, 120000, ca 1, C.b), (zc, 154, 120000, ca 1, C.c), (zy, 165, 16, ca 1, C.y)] [] H_15 locs_15 := ((hh_13.call hb_151 hb_152 hb_153 hb_154 hS_15 rfl (L1 := [(r0, 15, 49, .int wv_13), (r0, 15, 12, .ref symbol_3), (r0, 15, 48, .ref zm), (r0, 15, 0, .ref zs), (r0, 15, 1, .ref zn), (r0, 15, 2, .ref za), (r0, 15, 3, .ref zb), (r0, 15, 4, .ref zc), (r0, 15, 14, .ref zy)]) [0, 1, 2, 3, 4, 5, 6, 7, 8] rfl rfl (M1 := [(zm, 164, 100, ca 1, fm_13), (zs, 150, 120000, ca 1, C.s), (zn, 151, 120000, ca 1, C.n), (za, 152, 120000, ca 1, C.a), (zb, 153, 120000, ca 1, C.b), (zc, 154, 120000, ca 1, C.c), (zy, 165, 16, ca 1, C.y)]) [0, 1, 2, 3, 4, 5, 6] rfl rfl (I1 := []) [] rfl rfl).more hb_155)
          clear hh_13 ht_15 hvm_15 hz_15 hk_15 hS_15 hb_151 hb_152 hb_153 hb_154 hb_155
          rw [hQ]
          exact W.vret hx hb hr (fun t ht hW => ⟨⟨(wv_13, fm_13), rfl, by (try dsimp only); refine ⟨by omega, ?_⟩; have h8 := hi_13_3; rw [hfm0] at h8; exact h8, ⟨hh_15.rt (M1 := [(r0, 15, 49, .int wv_13)]) [0] rfl ht, by rw [ht]; exact hh_15.2.2.2.2.2.2.2.1.sub [0] rfl⟩⟩, by rw [ht]; try exact hh_15.1.1, fun q h9 hq => by rw [ht]; try exact hh_15.1.2.1 q h9 hq⟩) hh_15.1.2.2 dX13_applied_73
        · skip
          have c_14' : v3_13.toInt < r_9.toInt := jb_ge_n (rfl) (rfl) c_14
          refine lv_iload_n hx hb dX13_applied_39 rfl (lv_at hl 3 rfl) ?_
          refine lv_if_le (tgt := 50) hx hb dX13_applied_40 (by decide) (fun c_17 => ?_) (fun c_17 => ?_)
          · skip
            have c_17' : v3_13.toInt ≤ 0 := jb_le (rfl) ((by decide)) c_17
            have hcp := hp0.part (k := v3_13.toInt) (by omega) (by omega)
            rw [hq0, Int.add_zero] at hcp
            have hmx : jMx fm_13 pv.toInt M := jMx.eq (by rw [hfm0]; exact hp1) hi_13_3
            refine lv_aload_n hx hb dX13_applied_50 rfl (lv_at hl 0 rfl) ?_
            refine lv_aload_n hx hb dX13_applied_51 rfl (lv_at hl 0 rfl) ?_
            refine lv_iload_n hx hb dX13_applied_52 rfl (lv_at hl 1 rfl) ?_
            refine lv_iload_n hx hb dX13_applied_53 rfl (lv_at hl 3 rfl) ?_
            refine va_calli (A0 := jA base) (H0 := s.heap) (va_runV (As := [.int a1, .int v3_13]) (rest := [.ref r0]) ⟨hx, hb, hml, hown, hts⟩ (uX13_partK l dC dI ca base B hB hAp hB15 hB150 hB151 hB152 hB153 hB154 hB165 G0 H_13 r0 a1 v3_13 zs zn za zb zc zy C) (cwV 2 hts (jgV (jWr_65 _ (List.mem_of_getElem? (i := 19) rfl)) (jWr_65 _ (List.mem_of_getElem? (i := 20) rfl)) (jWr_65 _ (List.mem_of_getElem? (i := 21) rfl)) (jWr_12 _ (List.mem_of_getElem? (i := 12) rfl)) (jWr_65 _ (List.mem_of_getElem? (i := 22) rfl))) rfl rfl rfl (by decide +kernel) ⟨by rw [← hR]; show (0) + 1 ≤ 3 * d + 8; omega, by rw [← hR]; show 8 + (3 + 11) + (0) ≤ 90 * d + 960; omega⟩) ⟨fun a U g mk q => by obtain ⟨q0, q1, q2, qK, q10, q11, q12, q13, q14, q15, q16, q17, q18, q19⟩ := q; exact ⟨q0, q1, q2, jG.calling g mk a qK, q10, q11, q12, q13, q14, q15, q16, q17, q18, q19⟩, hh_13.recv (C := RX13) (T := TX13) (N := 50) hB15 rfl (by decide) hg_r0 hK, fun U hU hW => ⟨rfl, hU, hh_13.2.1, hG.step hW hU hh_13.1, hg_r0, hg_zs, hg_zn, hg_za, hg_zb, hg_zc, hg_zy, (hh_13.2.2.1.sub (L1 := [(r0, 15, 0, .ref zs), (r0, 15, 1, .ref zn), (r0, 15, 2, .ref za), (r0, 15, 3, .ref zb), (r0, 15, 4, .ref zc), (r0, 15, 14, .ref zy)]) [3, 4, 5, 6, 7, 8] rfl), (hh_13.2.2.2.2.2.2.2.1.sub (L1 := [(zs, 150, 120000, ca 1, C.s), (zn, 151, 120000, ca 1, C.n), (za, 152, 120000, ca 1, C.a), (zb, 153, 120000, ca 1, C.b), (zc, 154, 120000, ca 1, C.c), (zy, 165, 16, ca 1, C.y)]) [1, 2, 3, 4, 5, 6] rfl), by first | omega | (refine ⟨?_, ?_⟩ <;> (first | omega | rfl | assumption | decide | exact Or.inl rfl | exact Or.inr rfl | (simp only; omega)))⟩⟩ rfl rfl hl.1 rfl (lv_room (Nat.le_of_ble_eq_true rfl)) dX13_applied_54 ⟨Nat.zero_le _, Nat.zero_le _⟩) hh_13.1 (fun q _ h => h) (fun q h => h) (fun r_19 u_18 t_18 H_18 locs_18 ht_18 hvm_18 hr_19 hb_18 hz_18 hk_18 hS_18 => ?_)
            rw [ht_18] at hb_18
            obtain ⟨hb_181, hb_182, hb_183, hb_184, hb_185⟩ := hb_18
            have hh_18 : jSt (dC, dI) B base G0 G0 EX13_applied s.heap 0 0 [(r0, 15, 49, .int wv_13), (r0, 15, 12, .ref symbol_3), (r0, 15, 48, .ref zm), (r0, 15, 0, .ref zs), (r0, 15, 1, .ref zn), (r0, 15, 2, .ref za), (r0, 15, 3, .ref zb), (r0, 15, 4, .ref zc), (r0, 15, 14, .ref zy)] [(zm, 164, 100, ca 1, fm_13), (zs, 150, 120000, ca 1, C.s), (zn, 151, 120000, ca 1, C.n), (za, 152, 120000, ca 1, C.a), (zb, 153, 120000, ca 1, C.b), (zc, 154, 120000, ca 1, C.c), (zy, 165, 16, ca 1, C.y)] [] H_18 locs_18 := ((hh_13.call hb_181 hb_182 hb_183 hb_184 hS_18 rfl (L1 := [(r0, 15, 49, .int wv_13), (r0, 15, 12, .ref symbol_3), (r0, 15, 48, .ref zm), (r0, 15, 0, .ref zs), (r0, 15, 1, .ref zn), (r0, 15, 2, .ref za), (r0, 15, 3, .ref zb), (r0, 15, 4, .ref zc), (r0, 15, 14, .ref zy)]) [0, 1, 2, 3, 4, 5, 6, 7, 8] rfl rfl (M1 := [(zm, 164, 100, ca 1, fm_13), (zs, 150, 120000, ca 1, C.s), (zn, 151, 120000, ca 1, C.n), (za, 152, 120000, ca 1, C.a), (zb, 153, 120000, ca 1, C.b), (zc, 154, 120000, ca 1, C.c), (zy, 165, 16, ca 1, C.y)]) [0, 1, 2, 3, 4, 5, 6] rfl rfl (I1 := []) [] rfl rfl).more hb_185)
            clear hh_13 ht_18 hvm_18 hz_18 hk_18 hS_18 hb_181 hb_182 hb_183 hb_184 hb_185
            refine lv_iconst (v := 0) hx hb dX13_applied_57 (by decide) ?_
            refine va_callv (A0 := jA base) (H0 := s.heap) (va_runV (As := [.int r_19, .int 0]) (rest := []) ⟨hx, hb, hml, hown, hts⟩ (ih (d - 1) (by omega) G0 H_18 r0 r_19 0 wv_13 zm zs zn za zb zc zy M fm_13 C) (cwV 2 hts (jgV (jWr_71 _ (List.mem_of_getElem? (i := 5) rfl)) (jWr_71 _ (List.mem_of_getElem? (i := 6) rfl)) (jWr_71 _ (List.mem_of_getElem? (i := 7) rfl)) (jWr_12 _ (List.mem_of_getElem? (i := 12) rfl)) (jWr_71 _ (List.mem_of_getElem? (i := 8) rfl))) rfl rfl rfl (by decide +kernel) ⟨by rw [← hR]; show (3 * (d - 1) + 10) + 1 ≤ 3 * d + 8; omega, by rw [← hR]; show 8 + (4 + 11) + (90 * (d - 1) + 1000) ≤ 90 * d + 960; omega⟩) ⟨fun a U g mk q => by obtain ⟨q0, q1, q2, qK, q10, q11, q12, q13, q14, q15, q16, q17, q18, q19, q20, q21⟩ := q; exact ⟨q0, q1, q2, jG.calling g mk a qK, q10, q11, q12, q13, q14, q15, q16, q17, q18, q19, q20, q21⟩, hh_18.recv (C := RX13) (T := TX13) (N := 50) hB15 rfl (by decide) hg_r0 hK, fun U hU hW => ⟨rfl, hU, hh_18.2.1, hG.step hW hU hh_18.1, hg_r0, (Or.inl rfl), hg_zm, hg_zs, hg_zn, hg_za, hg_zb, hg_zc, hg_zy, (hh_18.2.2.1.sub (L1 := [(r0, 15, 49, .int wv_13), (r0, 15, 48, .ref zm), (r0, 15, 0, .ref zs), (r0, 15, 1, .ref zn), (r0, 15, 2, .ref za), (r0, 15, 3, .ref zb), (r0, 15, 4, .ref zc), (r0, 15, 14, .ref zy)]) [0, 2, 3, 4, 5, 6, 7, 8] rfl), (hh_18.2.2.2.2.2.2.2.1.sub (L1 := [(zm, 164, 100, ca 1, fm_13), (zs, 150, 120000, ca 1, C.s), (zn, 151, 120000, ca 1, C.n), (za, 152, 120000, ca 1, C.a), (zb, 153, 120000, ca 1, C.b), (zc, 154, 120000, ca 1, C.c), (zy, 165, 16, ca 1, C.y)]) [0, 1, 2, 3, 4, 5, 6] rfl), ⟨(by first | assumption | (rw [hi_13_2, hr_19]; exact hcp) | (rw [hi_13_2]; exact hmx) | omega), (by first | assumption | (rw [hi_13_2, hr_19]; exact hcp) | (rw [hi_13_2]; exact hmx) | omega), (by first | omega | rfl | assumption | (rw [hi_13_2, hr_19]; exact hcp) | (rw [hi_13_2]; exact hmx)), (by first | omega | rfl | assumption | (rw [hi_13_2, hr_19]; exact hcp) | (rw [hi_13_2]; exact hmx)), (by first | omega | rfl | assumption | (rw [hi_13_2, hr_19]; exact hcp) | (rw [hi_13_2]; exact hmx)), (by first | omega | rfl | assumption | (rw [hi_13_2, hr_19]; exact hcp) | (rw [hi_13_2]; exact hmx)), (by first | omega | rfl | assumption | (rw [hi_13_2, hr_19]; exact hcp) | (rw [hi_13_2]; exact hmx))⟩⟩⟩ rfl rfl hl.1 rfl (lv_room (Nat.le_of_ble_eq_true rfl)) dX13_applied_58 ⟨Nat.zero_le _, Nat.zero_le _⟩) hh_18.1 (fun q _ h => h) (fun q h => h) (fun u_20 t_20 H_20 locs_20 ht_20 hvm_20 hr_21 hb_20 hz_20 hk_20 hS_20 => ?_)
            obtain ⟨qv_20, gm_20⟩ := u_20
            rw [ht_20] at hb_20
            obtain ⟨⟨hb_201, hb_202, hb_203, hb_204, hb_205⟩, hb_206⟩ := hb_20
            have hh_20 : jSt (dC, dI) B base G0 G0 EX13_applied s.heap 0 0 [(r0, 15, 49, .int qv_20), (r0, 15, 12, .ref symbol_3), (r0, 15, 48, .ref zm), (r0, 15, 0, .ref zs), (r0, 15, 1, .ref zn), (r0, 15, 2, .ref za), (r0, 15, 3, .ref zb), (r0, 15, 4, .ref zc), (r0, 15, 14, .ref zy)] [(zm, 164, 100, ca 1, gm_20), (zs, 150, 120000, ca 1, C.s), (zn, 151, 120000, ca 1, C.n), (za, 152, 120000, ca 1, C.a), (zb, 153, 120000, ca 1, C.b), (zc, 154, 120000, ca 1, C.c), (zy, 165, 16, ca 1, C.y)] [] H_20 locs_20 := ((hh_18.call hb_201 hb_202 hb_203 hb_204 hS_20 rfl (L1 := [(r0, 15, 12, .ref symbol_3), (r0, 15, 48, .ref zm), (r0, 15, 0, .ref zs), (r0, 15, 1, .ref zn), (r0, 15, 2, .ref za), (r0, 15, 3, .ref zb), (r0, 15, 4, .ref zc), (r0, 15, 14, .ref zy)]) [1, 2, 3, 4, 5, 6, 7, 8] rfl rfl (M1 := [(zs, 150, 120000, ca 1, C.s), (zn, 151, 120000, ca 1, C.n), (za, 152, 120000, ca 1, C.a), (zb, 153, 120000, ca 1, C.b), (zc, 154, 120000, ca 1, C.c), (zy, 165, 16, ca 1, C.y)]) [1, 2, 3, 4, 5, 6] rfl rfl (I1 := []) [] rfl rfl).more hb_205).moreM hb_206
            clear hh_18 ht_20 hvm_20 hz_20 hk_20 hS_20 hb_201 hb_202 hb_203 hb_204 hb_205
            clear hb_206
            try simp only at hr_21
            obtain ⟨hr_21_0, hr_21_1⟩ := hr_21
            obtain ⟨z_22, ez_22⟩ : ∃ y : Int32, y = v3_13 + 1 := ⟨_, rfl⟩
            refine lv_iinc (v := z_22) (lv' := [(3, .int z_22), (0, .ref r0), (1, .int a1), (2, .int r_9)]) hx hb dX13_applied_61 hl (k := 3) rfl (by rw [ez_22]; rfl) (by decide) rfl (fun ls hl => ?_)
            have hz_22 : z_22.toInt = v3_13.toInt + 1 := by rw [ez_22]; exact jb_iadd2 (rfl) (by decide) (by omega)
            refine lv_goto (tgt := 34) hx hb dX13_applied_64 (by decide) ?_
            exact L34 z_22 qv_20 gm_20 _ _ hh_20 (⟨(by first | omega | rfl | assumption | (rw [hfm0]; exact jEqK.rf _ _) | (have h8 := hr_21_1; rw [hi_13_2] at h8; exact hi_13_3.tr h8)), (by first | omega | rfl | assumption | (rw [hfm0]; exact jEqK.rf _ _) | (have h8 := hr_21_1; rw [hi_13_2] at h8; exact hi_13_3.tr h8)), (by first | omega | rfl | assumption | (rw [hfm0]; exact jEqK.rf _ _) | (have h8 := hr_21_1; rw [hi_13_2] at h8; exact hi_13_3.tr h8)), (by first | assumption | (rw [hfm0]; exact jEqK.rf _ _) | (have h8 := hr_21_1; rw [hi_13_2] at h8; exact hi_13_3.tr h8) | omega)⟩) (by omega) _ (lv_sub hl [1, 2, 3, 0] rfl)
          · skip
            have c_17' : v3_13.toInt > 0 := jb_le_n (rfl) ((by decide)) c_17
            refine lv_aload_n hx hb dX13_applied_43 rfl (lv_at hl 0 rfl) ?_
            refine j_ldcSw hx hb hown rstr427 dX13_applied_44 ?_
            refine va_callv (A0 := jA base) (H0 := s.heap) (va_runV (As := [.ref str427]) (rest := []) ⟨hx, hb, hml, hown, hts⟩ (uX13_words l dC dI ca base B hB hAp hB15 hB101 G0 H_13 r0 str427 2) (cwV 1 hts (jgV (jWr_70 _ (List.mem_of_getElem? (i := 20) rfl)) (jWr_70 _ (List.mem_of_getElem? (i := 21) rfl)) (jWr_70 _ (List.mem_of_getElem? (i := 22) rfl)) (jWr_12 _ (List.mem_of_getElem? (i := 12) rfl)) (jWr_70 _ (List.mem_of_getElem? (i := 23) rfl))) rfl rfl rfl (by decide +kernel) ⟨by rw [← hR]; show (4) + 1 ≤ 3 * d + 8; omega, by rw [← hR]; show 8 + (3 + 11) + (141) ≤ 90 * d + 960; omega⟩) ⟨fun a U g mk q => by obtain ⟨q0, q1, q2, qK, q10, q11, q12, q13⟩ := q; exact ⟨q0, q1, q2, jG.calling g mk a qK, (q10.moved (Vm.Alike.refl U.vm)), q11, q12, q13⟩, hh_13.recv (C := RX13) (T := TX13) (N := 50) hB15 rfl (by decide) hg_r0 hK, fun U hU hW => ⟨rfl, hU, hh_13.2.1, hG.step hW hU hh_13.1, (hstr427.moved hW.alike).kept hh_13.1.2.1, hg_r0, jP.nil, by first | omega | rfl | assumption | decide | exact Or.inl rfl | exact Or.inr rfl | (simp only; omega)⟩⟩ rfl rfl hl.1 rfl (lv_room (Nat.le_of_ble_eq_true rfl)) dX13_applied_47 ⟨Nat.zero_le _, Nat.zero_le _⟩) hh_13.1 (fun q _ h => h) (fun q h => h) (fun u_23 t_23 H_23 locs_23 ht_23 hvm_23 hr_24 hb_23 hz_23 hk_23 hS_23 => ?_)
            rw [ht_23] at hb_23
            obtain ⟨hb_231, hb_232, hb_233, hb_234, hb_235⟩ := hb_23
            have hh_23 : jSt (dC, dI) B base G0 G0 EX13_applied s.heap 0 0 [(r0, 15, 49, .int wv_13), (r0, 15, 12, .ref symbol_3), (r0, 15, 48, .ref zm), (r0, 15, 0, .ref zs), (r0, 15, 1, .ref zn), (r0, 15, 2, .ref za), (r0, 15, 3, .ref zb), (r0, 15, 4, .ref zc), (r0, 15, 14, .ref zy)] [(zm, 164, 100, ca 1, fm_13), (zs, 150, 120000, ca 1, C.s), (zn, 151, 120000, ca 1, C.n), (za, 152, 120000, ca 1, C.a), (zb, 153, 120000, ca 1, C.b), (zc, 154, 120000, ca 1, C.c), (zy, 165, 16, ca 1, C.y)] [] H_23 locs_23 := ((hh_13.call hb_231 hb_232 hb_233 hb_234 hS_23 rfl (L1 := [(r0, 15, 49, .int wv_13), (r0, 15, 12, .ref symbol_3), (r0, 15, 48, .ref zm), (r0, 15, 0, .ref zs), (r0, 15, 1, .ref zn), (r0, 15, 2, .ref za), (r0, 15, 3, .ref zb), (r0, 15, 4, .ref zc), (r0, 15, 14, .ref zy)]) [0, 1, 2, 3, 4, 5, 6, 7, 8] rfl rfl (M1 := [(zm, 164, 100, ca 1, fm_13), (zs, 150, 120000, ca 1, C.s), (zn, 151, 120000, ca 1, C.n), (za, 152, 120000, ca 1, C.a), (zb, 153, 120000, ca 1, C.b), (zc, 154, 120000, ca 1, C.c), (zy, 165, 16, ca 1, C.y)]) [0, 1, 2, 3, 4, 5, 6] rfl rfl (I1 := []) [] rfl rfl).more hb_235)
            clear hh_13 ht_23 hvm_23 hz_23 hk_23 hS_23 hb_231 hb_232 hb_233 hb_234 hb_235
            have hcp := hp0.part (k := v3_13.toInt) (by omega) (by omega)
            rw [hq0, Int.add_zero] at hcp
            have hmx : jMx fm_13 pv.toInt M := jMx.eq (by rw [hfm0]; exact hp1) hi_13_3
            refine lv_aload_n hx hb dX13_applied_50 rfl (lv_at hl 0 rfl) ?_
            refine lv_aload_n hx hb dX13_applied_51 rfl (lv_at hl 0 rfl) ?_
            refine lv_iload_n hx hb dX13_applied_52 rfl (lv_at hl 1 rfl) ?_
            refine lv_iload_n hx hb dX13_applied_53 rfl (lv_at hl 3 rfl) ?_
            refine va_calli (A0 := jA base) (H0 := s.heap) (va_runV (As := [.int a1, .int v3_13]) (rest := [.ref r0]) ⟨hx, hb, hml, hown, hts⟩ (uX13_partK l dC dI ca base B hB hAp hB15 hB150 hB151 hB152 hB153 hB154 hB165 G0 H_23 r0 a1 v3_13 zs zn za zb zc zy C) (cwV 2 hts (jgV (jWr_65 _ (List.mem_of_getElem? (i := 19) rfl)) (jWr_65 _ (List.mem_of_getElem? (i := 20) rfl)) (jWr_65 _ (List.mem_of_getElem? (i := 21) rfl)) (jWr_12 _ (List.mem_of_getElem? (i := 12) rfl)) (jWr_65 _ (List.mem_of_getElem? (i := 22) rfl))) rfl rfl rfl (by decide +kernel) ⟨by rw [← hR]; show (0) + 1 ≤ 3 * d + 8; omega, by rw [← hR]; show 8 + (3 + 11) + (0) ≤ 90 * d + 960; omega⟩) ⟨fun a U g mk q => by obtain ⟨q0, q1, q2, qK, q10, q11, q12, q13, q14, q15, q16, q17, q18, q19⟩ := q; exact ⟨q0, q1, q2, jG.calling g mk a qK, q10, q11, q12, q13, q14, q15, q16, q17, q18, q19⟩, hh_23.recv (C := RX13) (T := TX13) (N := 50) hB15 rfl (by decide) hg_r0 hK, fun U hU hW => ⟨rfl, hU, hh_23.2.1, hG.step hW hU hh_23.1, hg_r0, hg_zs, hg_zn, hg_za, hg_zb, hg_zc, hg_zy, (hh_23.2.2.1.sub (L1 := [(r0, 15, 0, .ref zs), (r0, 15, 1, .ref zn), (r0, 15, 2, .ref za), (r0, 15, 3, .ref zb), (r0, 15, 4, .ref zc), (r0, 15, 14, .ref zy)]) [3, 4, 5, 6, 7, 8] rfl), (hh_23.2.2.2.2.2.2.2.1.sub (L1 := [(zs, 150, 120000, ca 1, C.s), (zn, 151, 120000, ca 1, C.n), (za, 152, 120000, ca 1, C.a), (zb, 153, 120000, ca 1, C.b), (zc, 154, 120000, ca 1, C.c), (zy, 165, 16, ca 1, C.y)]) [1, 2, 3, 4, 5, 6] rfl), by first | omega | (refine ⟨?_, ?_⟩ <;> (first | omega | rfl | assumption | decide | exact Or.inl rfl | exact Or.inr rfl | (simp only; omega)))⟩⟩ rfl rfl hl.1 rfl (lv_room (Nat.le_of_ble_eq_true rfl)) dX13_applied_54 ⟨Nat.zero_le _, Nat.zero_le _⟩) hh_23.1 (fun q _ h => h) (fun q h => h) (fun r_26 u_25 t_25 H_25 locs_25 ht_25 hvm_25 hr_26 hb_25 hz_25 hk_25 hS_25 => ?_)
            rw [ht_25] at hb_25
            obtain ⟨hb_251, hb_252, hb_253, hb_254, hb_255⟩ := hb_25
            have hh_25 : jSt (dC, dI) B base G0 G0 EX13_applied s.heap 0 0 [(r0, 15, 49, .int wv_13), (r0, 15, 12, .ref symbol_3), (r0, 15, 48, .ref zm), (r0, 15, 0, .ref zs), (r0, 15, 1, .ref zn), (r0, 15, 2, .ref za), (r0, 15, 3, .ref zb), (r0, 15, 4, .ref zc), (r0, 15, 14, .ref zy)] [(zm, 164, 100, ca 1, fm_13), (zs, 150, 120000, ca 1, C.s), (zn, 151, 120000, ca 1, C.n), (za, 152, 120000, ca 1, C.a), (zb, 153, 120000, ca 1, C.b), (zc, 154, 120000, ca 1, C.c), (zy, 165, 16, ca 1, C.y)] [] H_25 locs_25 := ((hh_23.call hb_251 hb_252 hb_253 hb_254 hS_25 rfl (L1 := [(r0, 15, 49, .int wv_13), (r0, 15, 12, .ref symbol_3), (r0, 15, 48, .ref zm), (r0, 15, 0, .ref zs), (r0, 15, 1, .ref zn), (r0, 15, 2, .ref za), (r0, 15, 3, .ref zb), (r0, 15, 4, .ref zc), (r0, 15, 14, .ref zy)]) [0, 1, 2, 3, 4, 5, 6, 7, 8] rfl rfl (M1 := [(zm, 164, 100, ca 1, fm_13), (zs, 150, 120000, ca 1, C.s), (zn, 151, 120000, ca 1, C.n), (za, 152, 120000, ca 1, C.a), (zb, 153, 120000, ca 1, C.b), (zc, 154, 120000, ca 1, C.c), (zy, 165, 16, ca 1, C.y)]) [0, 1, 2, 3, 4, 5, 6] rfl rfl (I1 := []) [] rfl rfl).more hb_255)
            clear hh_23 ht_25 hvm_25 hz_25 hk_25 hS_25 hb_251 hb_252 hb_253 hb_254 hb_255
            refine lv_iconst (v := 0) hx hb dX13_applied_57 (by decide) ?_
            refine va_callv (A0 := jA base) (H0 := s.heap) (va_runV (As := [.int r_26, .int 0]) (rest := []) ⟨hx, hb, hml, hown, hts⟩ (ih (d - 1) (by omega) G0 H_25 r0 r_26 0 wv_13 zm zs zn za zb zc zy M fm_13 C) (cwV 2 hts (jgV (jWr_71 _ (List.mem_of_getElem? (i := 5) rfl)) (jWr_71 _ (List.mem_of_getElem? (i := 6) rfl)) (jWr_71 _ (List.mem_of_getElem? (i := 7) rfl)) (jWr_12 _ (List.mem_of_getElem? (i := 12) rfl)) (jWr_71 _ (List.mem_of_getElem? (i := 8) rfl))) rfl rfl rfl (by decide +kernel) ⟨by rw [← hR]; show (3 * (d - 1) + 10) + 1 ≤ 3 * d + 8; omega, by rw [← hR]; show 8 + (4 + 11) + (90 * (d - 1) + 1000) ≤ 90 * d + 960; omega⟩) ⟨fun a U g mk q => by obtain ⟨q0, q1, q2, qK, q10, q11, q12, q13, q14, q15, q16, q17, q18, q19, q20, q21⟩ := q; exact ⟨q0, q1, q2, jG.calling g mk a qK, q10, q11, q12, q13, q14, q15, q16, q17, q18, q19, q20, q21⟩, hh_25.recv (C := RX13) (T := TX13) (N := 50) hB15 rfl (by decide) hg_r0 hK, fun U hU hW => ⟨rfl, hU, hh_25.2.1, hG.step hW hU hh_25.1, hg_r0, (Or.inl rfl), hg_zm, hg_zs, hg_zn, hg_za, hg_zb, hg_zc, hg_zy, (hh_25.2.2.1.sub (L1 := [(r0, 15, 49, .int wv_13), (r0, 15, 48, .ref zm), (r0, 15, 0, .ref zs), (r0, 15, 1, .ref zn), (r0, 15, 2, .ref za), (r0, 15, 3, .ref zb), (r0, 15, 4, .ref zc), (r0, 15, 14, .ref zy)]) [0, 2, 3, 4, 5, 6, 7, 8] rfl), (hh_25.2.2.2.2.2.2.2.1.sub (L1 := [(zm, 164, 100, ca 1, fm_13), (zs, 150, 120000, ca 1, C.s), (zn, 151, 120000, ca 1, C.n), (za, 152, 120000, ca 1, C.a), (zb, 153, 120000, ca 1, C.b), (zc, 154, 120000, ca 1, C.c), (zy, 165, 16, ca 1, C.y)]) [0, 1, 2, 3, 4, 5, 6] rfl), ⟨(by first | assumption | (rw [hi_13_2, hr_26]; exact hcp) | (rw [hi_13_2]; exact hmx) | omega), (by first | assumption | (rw [hi_13_2, hr_26]; exact hcp) | (rw [hi_13_2]; exact hmx) | omega), (by first | omega | rfl | assumption | (rw [hi_13_2, hr_26]; exact hcp) | (rw [hi_13_2]; exact hmx)), (by first | omega | rfl | assumption | (rw [hi_13_2, hr_26]; exact hcp) | (rw [hi_13_2]; exact hmx)), (by first | omega | rfl | assumption | (rw [hi_13_2, hr_26]; exact hcp) | (rw [hi_13_2]; exact hmx)), (by first | omega | rfl | assumption | (rw [hi_13_2, hr_26]; exact hcp) | (rw [hi_13_2]; exact hmx)), (by first | omega | rfl | assumption | (rw [hi_13_2, hr_26]; exact hcp) | (rw [hi_13_2]; exact hmx))⟩⟩⟩ rfl rfl hl.1 rfl (lv_room (Nat.le_of_ble_eq_true rfl)) dX13_applied_58 ⟨Nat.zero_le _, Nat.zero_le _⟩) hh_25.1 (fun q _ h => h) (fun q h => h) (fun u_27 t_27 H_27 locs_27 ht_27 hvm_27 hr_28 hb_27 hz_27 hk_27 hS_27 => ?_)
            obtain ⟨qv_27, gm_27⟩ := u_27
            rw [ht_27] at hb_27
            obtain ⟨⟨hb_271, hb_272, hb_273, hb_274, hb_275⟩, hb_276⟩ := hb_27
            have hh_27 : jSt (dC, dI) B base G0 G0 EX13_applied s.heap 0 0 [(r0, 15, 49, .int qv_27), (r0, 15, 12, .ref symbol_3), (r0, 15, 48, .ref zm), (r0, 15, 0, .ref zs), (r0, 15, 1, .ref zn), (r0, 15, 2, .ref za), (r0, 15, 3, .ref zb), (r0, 15, 4, .ref zc), (r0, 15, 14, .ref zy)] [(zm, 164, 100, ca 1, gm_27), (zs, 150, 120000, ca 1, C.s), (zn, 151, 120000, ca 1, C.n), (za, 152, 120000, ca 1, C.a), (zb, 153, 120000, ca 1, C.b), (zc, 154, 120000, ca 1, C.c), (zy, 165, 16, ca 1, C.y)] [] H_27 locs_27 := ((hh_25.call hb_271 hb_272 hb_273 hb_274 hS_27 rfl (L1 := [(r0, 15, 12, .ref symbol_3), (r0, 15, 48, .ref zm), (r0, 15, 0, .ref zs), (r0, 15, 1, .ref zn), (r0, 15, 2, .ref za), (r0, 15, 3, .ref zb), (r0, 15, 4, .ref zc), (r0, 15, 14, .ref zy)]) [1, 2, 3, 4, 5, 6, 7, 8] rfl rfl (M1 := [(zs, 150, 120000, ca 1, C.s), (zn, 151, 120000, ca 1, C.n), (za, 152, 120000, ca 1, C.a), (zb, 153, 120000, ca 1, C.b), (zc, 154, 120000, ca 1, C.c), (zy, 165, 16, ca 1, C.y)]) [1, 2, 3, 4, 5, 6] rfl rfl (I1 := []) [] rfl rfl).more hb_275).moreM hb_276
            clear hh_25 ht_27 hvm_27 hz_27 hk_27 hS_27 hb_271 hb_272 hb_273 hb_274 hb_275
            clear hb_276
            try simp only at hr_28
            obtain ⟨hr_28_0, hr_28_1⟩ := hr_28
            obtain ⟨z_29, ez_29⟩ : ∃ y : Int32, y = v3_13 + 1 := ⟨_, rfl⟩
            refine lv_iinc (v := z_29) (lv' := [(3, .int z_29), (0, .ref r0), (1, .int a1), (2, .int r_9)]) hx hb dX13_applied_61 hl (k := 3) rfl (by rw [ez_29]; rfl) (by decide) rfl (fun ls hl => ?_)
            have hz_29 : z_29.toInt = v3_13.toInt + 1 := by rw [ez_29]; exact jb_iadd2 (rfl) (by decide) (by omega)
            refine lv_goto (tgt := 34) hx hb dX13_applied_64 (by decide) ?_
            exact L34 z_29 qv_27 gm_27 _ _ hh_27 (⟨(by first | omega | rfl | assumption | (rw [hfm0]; exact jEqK.rf _ _) | (have h8 := hr_28_1; rw [hi_13_2] at h8; exact hi_13_3.tr h8)), (by first | omega | rfl | assumption | (rw [hfm0]; exact jEqK.rf _ _) | (have h8 := hr_28_1; rw [hi_13_2] at h8; exact hi_13_3.tr h8)), (by first | omega | rfl | assumption | (rw [hfm0]; exact jEqK.rf _ _) | (have h8 := hr_28_1; rw [hi_13_2] at h8; exact hi_13_3.tr h8)), (by first | assumption | (rw [hfm0]; exact jEqK.rf _ _) | (have h8 := hr_28_1; rw [hi_13_2] at h8; exact hi_13_3.tr h8) | omega)⟩) (by omega) _ (lv_sub hl [1, 2, 3, 0] rfl)
    exact L34 (3 - (0 : Int32).toInt : Int).toNat.succ 0 pv fm _ _ (hh_11.sub (L1 := [(r0, 15, 49, .int pv), (r0, 15, 12, .ref symbol_3), (r0, 15, 48, .ref zm), (r0, 15, 0, .ref zs), (r0, 15, 1, .ref zn), (r0, 15, 2, .ref za), (r0, 15, 3, .ref zb), (r0, 15, 4, .ref zc), (r0, 15, 14, .ref zy)]) [1, 0, 2, 3, 4, 5, 6, 7, 8] rfl (M1 := [(zm, 164, 100, ca 1, fm), (zs, 150, 120000, ca 1, C.s), (zn, 151, 120000, ca 1, C.n), (za, 152, 120000, ca 1, C.a), (zb, 153, 120000, ca 1, C.b), (zc, 154, 120000, ca 1, C.c), (zy, 165, 16, ca 1, C.y)]) [0, 1, 2, 3, 4, 5, 6] rfl (I1 := []) [] rfl) (⟨(by first | omega | rfl | assumption | (rw [hfm0]; exact jEqK.rf _ _) | (have h8 := hr_28_1; rw [(zz_none)] at h8; exact (zz_none).tr h8)), (by first | omega | rfl | assumption | (rw [hfm0]; exact jEqK.rf _ _) | (have h8 := hr_28_1; rw [(zz_none)] at h8; exact (zz_none).tr h8)), (by first | omega | rfl | assumption | (rw [hfm0]; exact jEqK.rf _ _) | (have h8 := hr_28_1; rw [(zz_none)] at h8; exact (zz_none).tr h8)), (by first | assumption | (rw [hfm0]; exact jEqK.rf _ _) | (have h8 := hr_28_1; rw [(zz_none)] at h8; exact (zz_none).tr h8) | omega)⟩) (by omega) _ (lv_sub hl [2, 3, 1, 0] rfl)
  · skip
    have c_10' : r_9.toInt = 0 := jb_ne_n (rfl) ((by decide)) c_10
    rw [hQ]
    exact W.vret hx hb hr (fun t ht hW => ⟨⟨(pv, fm), rfl, by (try dsimp only); exact ⟨by omega, jEqK.rf _ _⟩, ⟨hh_8.rt (M1 := [(r0, 15, 49, .int pv)]) [1] rfl ht, by rw [ht]; exact hh_8.2.2.2.2.2.2.2.1.sub [0] rfl⟩⟩, by rw [ht]; try exact hh_8.1.1, fun q h9 hq => by rw [ht]; try exact hh_8.1.2.1 q h9 hq⟩) hh_8.1.2.2 dX13_applied_25
set_option maxHeartbeats 4000000 in
set_option maxRecDepth 20000 in
theorem uX13_quantified (l : Launch) (dC : Nat → ClassId) (dI : Nat → Nat → Nat) (ca : Nat → ClassId) (base : Nat) (B : jF) (hB : jBok B) (hAp : jAp (dC, dI)) (hB15 : ∀ n G a H, B 15 n G a H ↔ jOb (dC, dI) 15 50 (F15 n G) a H) (hB101 : ∀ n G a H, B 101 n G a H ↔ jAr (dC, dI) (ca 1) (fun j z => True) n a H) (hB150 : ∀ n G a H, B 150 n G a H ↔ jAr (dC, dI) (ca 1) (fun j z => True) n a H) (hB151 : ∀ n G a H, B 151 n G a H ↔ jAr (dC, dI) (ca 1) (fun j z => True) n a H) (hB152 : ∀ n G a H, B 152 n G a H ↔ jAr (dC, dI) (ca 1) (fun j z => True) n a H) (hB153 : ∀ n G a H, B 153 n G a H ↔ jAr (dC, dI) (ca 1) (fun j z => True) n a H) (hB154 : ∀ n G a H, B 154 n G a H ↔ jAr (dC, dI) (ca 1) (fun j z => True) n a H) (hB155 : ∀ n G a H, B 155 n G a H ↔ jAr (dC, dI) (ca 1) (fun j z => 0 ≤ z.toInt ∧ z.toInt ≤ 11990) n a H) (hB156 : ∀ n G a H, B 156 n G a H ↔ jAr (dC, dI) (ca 1) (fun j z => 0 ≤ z.toInt ∧ z.toInt ≤ 10) n a H) (hB163 : ∀ n G a H, B 163 n G a H ↔ jAr (dC, dI) (ca 1) (fun j z => 0 ≤ z.toInt ∧ z.toInt ≤ 1599) n a H) (hB164 : ∀ n G a H, B 164 n G a H ↔ jAr (dC, dI) (ca 1) (fun j z => 0 ≤ z.toInt ∧ z.toInt ≤ 100000) n a H) (hB165 : ∀ n G a H, B 165 n G a H ↔ jAr (dC, dI) (ca 1) (fun j z => 0 ≤ z.toInt ∧ z.toInt ≤ 3) n a H) (hB166 : ∀ n G a H, B 166 n G a H ↔ jAr (dC, dI) (ca 1) (fun j z => True) n a H) (d : Nat) (ih : ∀ e1, e1 < d → qX13_print l dC dI ca base B e1) (G0 : jT) (H0 : Heap) (r0 : Nat) (a1 : Int32) (a2 : Int32) (pv : Int32) (zm : Nat) (zs : Nat) (zn : Nat) (za : Nat) (zb : Nat) (zc : Nat) (zy : Nat) (M : Int) (fm : Nat → Int32) (C : jK) : Met l yX13_quantified (jw yX13_quantified cX13_quantified 4 none) ({ frames := 3 * d + 8, cells := 0, slots := 0, locals := 90 * d + 960 }) (va_Pc [.ref r0, .int a1, .int a2] (fun U => U.heap = H0 ∧ jX B base G0 [] H0 ∧ jG dC dI ca base U ∧ G0 r0 = some (15, 0) ∧ G0 zm = some (164, 100) ∧ G0 zs = some (150, 120000) ∧ G0 zn = some (151, 120000) ∧ G0 za = some (152, 120000) ∧ G0 zb = some (153, 120000) ∧ G0 zc = some (154, 120000) ∧ G0 zy = some (165, 16) ∧ jP (dC, dI) G0 H0 [(r0, 15, 49, .int pv), (r0, 15, 48, .ref zm), (r0, 15, 0, .ref zs), (r0, 15, 1, .ref zn), (r0, 15, 2, .ref za), (r0, 15, 3, .ref zb), (r0, 15, 4, .ref zc), (r0, 15, 14, .ref zy)] ∧ jMc (dC, dI) G0 H0 [(zm, 164, 100, ca 1, fm), (zs, 150, 120000, ca 1, C.s), (zn, 151, 120000, ca 1, C.n), (za, 152, 120000, ca 1, C.a), (zb, 153, 120000, ca 1, C.b), (zc, 154, 120000, ca 1, C.c), (zy, 165, 16, ca 1, C.y)] ∧ jFm C 120000 16 d pv.toInt a1.toInt ∧ jMx fm pv.toInt M ∧ 0 ≤ pv.toInt ∧ pv.toInt + d ≤ 99 ∧ 0 ≤ M ∧ M + 11 * d ≤ 90000 ∧ d ≤ 80 ∧ 4 ≤ jSo C.s a1.toInt ∧ jSo C.s a1.toInt ≤ 5)) (va_Qv (S := Int32 × (Nat → Int32)) (fun u => u.1.toInt = pv.toInt ∧ jEqK fm u.2 pv.toInt) (fun u t => jRt (dC, dI) B base G0 EX13_quantified H0 [(r0, 15, 49, .int u.1)] t.heap ∧ jMc (dC, dI) G0 t.heap [(zm, 164, 100, ca 1, u.2)]) (jA base)) 0 0 (jA base) := by
  refine Met.ofW (cc := cX13_quantified) (maxL := 4) (ret := none) (by decide) rfl ?_
  intro p e s m args below meth c s₁ Bd hml hv
  obtain ⟨rfl, hH0, hX, hG, hg_r0, hg_zm, hg_zs, hg_zn, hg_za, hg_zb, hg_zc, hg_zy, hP0, hM0, hp0, hp1, hp2, hp3, hp4, hp5, hp6, hp7, hp8⟩ := hv
  have hK := hG.1
  have hx := Bd.exec
  have hb := Bd.bytes
  have hr := Bd.returns
  have hts := atoms_spec (ws := (jw yX13_quantified cX13_quantified 4 none)) Bd.pre
  have htw : ∀ w ∈ jWl, w.before _ s = true := fun w h => hts w (List.mem_cons_of_mem _ h)
  have hown : s.vm.findClass RX13 = some m.cls := findClass_of_methodNamed Bd.named
  have hlocks := Bd.notSynchronized
  obtain ⟨Q, hQ⟩ : ∃ Q, Q = MQ below (va_Qv (S := Int32 × (Nat → Int32)) (fun u => u.1.toInt = pv.toInt ∧ jEqK fm u.2 pv.toInt) (fun u t => jRt (dC, dI) B base G0 EX13_quantified H0 [(r0, 15, 49, .int u.1)] t.heap ∧ jMc (dC, dI) G0 t.heap [(zm, 164, 100, ca 1, u.2)]) (jA base)) ([.ref r0, .int a1, .int a2] : List Value).toArray s 0 0 (jA base) := ⟨_, rfl⟩
  rw [← hQ]
  have hl := lv_entry ([.ref r0, .int a1, .int a2]) (n := 4) (Nat.le_of_ble_eq_true rfl)
  rw [lg_entry_eq]
  generalize (lg_sl ([.ref r0, .int a1, .int a2]) ++ List.replicate (4 - (lg_sl ([.ref r0, .int a1, .int a2])).length) Slot.unset).toArray = ls at hl ⊢
  have hl : lv_has ls 4 [(0, .ref r0), (1, .int a1), (2, .int a2)] := hl
  generalize hR : (headSpec (jw yX13_quantified cX13_quantified 4 none) ({ frames := 3 * d + 8, cells := 0, slots := 0, locals := 90 * d + 960 })).room = R
  subst hH0
  have hh : jSt (dC, dI) B base G0 G0 EX13_quantified s.heap 0 0 [(r0, 15, 49, .int pv), (r0, 15, 48, .ref zm), (r0, 15, 0, .ref zs), (r0, 15, 1, .ref zn), (r0, 15, 2, .ref za), (r0, 15, 3, .ref zb), (r0, 15, 4, .ref zc), (r0, 15, 14, .ref zy)] [(zm, 164, 100, ca 1, fm), (zs, 150, 120000, ca 1, C.s), (zn, 151, 120000, ca 1, C.n), (za, 152, 120000, ca 1, C.a), (zb, 153, 120000, ca 1, C.b), (zc, 154, 120000, ca 1, C.c), (zy, 165, 16, ca 1, C.y)] [] s.heap [] := jSt.start hX hP0 hM0 jIs.nil
  clear hX hP0
  have hk0 : (0 : Int32).toInt = 0 := by decide
  have hk1 : (1 : Int32).toInt = 1 := by decide
  have hk4 : (4 : Int32).toInt = 4 := by decide
  have hly_15_1 := htw (u_lay RX13 TX13 1) (jWc_wsX130 _ (u_in_lay (by decide)))
  have hly_15_2 := htw (u_lay RX13 TX13 2) (jWc_wsX130 _ (u_in_lay (by decide)))
  have hly_15_47 := htw (u_lay RX13 TX13 47) (jWc_wsX130 _ (u_in_lay (by decide)))
  have hly_15_48 := htw (u_lay RX13 TX13 48) (jWc_wsX130 _ (u_in_lay (by decide)))
  have hly_15_49 := htw (u_lay RX13 TX13 49) (jWc_wsX130 _ (u_in_lay (by decide)))
  have hlk_19 := (htw (.fieldLink RX13 19 "ProofServerModel$Kernel" "one" "[I") (jWr_14 _ (List.mem_of_getElem? (i := 11) rfl)))
  have hlk_16 := (htw (.fieldLink RX13 16 "ProofServerModel$Kernel" "name" "[I") (jWr_14 _ (List.mem_of_getElem? (i := 10) rfl)))
  obtain ⟨str423, rstr423, hstr4230⟩ := hG.str (o := RX13) (k := 423) (tx := "forall ") (List.mem_of_getElem? (i := 2861) (by decide +kernel))
  have hstr423 : jStr base str423 7 s s.heap := hstr4230
  obtain ⟨str425, rstr425, hstr4250⟩ := hG.str (o := RX13) (k := 425) (tx := "exists ") (List.mem_of_getElem? (i := 2862) (by decide +kernel))
  have hstr425 : jStr base str425 7 s s.heap := hstr4250
  have hlk_93 := (htw (.fieldLink RX13 93 "ProofServerModel$Kernel" "writtenName" "[I") (jWr_15 _ (List.mem_of_getElem? (i := 12) rfl)))
  have hlk_388 := (htw (.fieldLink RX13 388 "ProofServerModel$Kernel" "written" "I") (jWr_71 _ (List.mem_of_getElem? (i := 4) rfl)))
  have hlk_96 := (htw (.fieldLink RX13 96 "ProofServerModel$Kernel" "writtenMarks" "[I") (jWr_15 _ (List.mem_of_getElem? (i := 13) rfl)))
  obtain ⟨str427, rstr427, hstr4270⟩ := hG.str (o := RX13) (k := 427) (tx := ", ") (List.mem_of_getElem? (i := 2863) (by decide +kernel))
  have hstr427 : jStr base str427 2 s s.heap := hstr4270
  have hrg_a1 := jb_rng a1
  have hrg_a2 := jb_rng a2
  have hnd := hp0.nd
  obtain ⟨g1, g2, g3, g4, g5, g6, g7, g8, g9⟩ := hnd
  have hpos := hp0.pos
  have h1p := hp0.onep (by omega)
  have h1q := h1p.2
  refine lv_iconst (v := 0) hx hb dX13_quantified_0 (by decide) ?_
  refine lv_istore_n (lv' := [(3, .int 0), (0, .ref r0), (1, .int a1), (2, .int a2)]) hx hb dX13_quantified_1 rfl hl (by decide) rfl (fun ls hl => ?_)
  have L2 : ∀ (N : Nat) (v3_1 : Int32) (H_1 : Heap) (locs_1 : List Loc), jSt (dC, dI) B base G0 G0 EX13_quantified s.heap 0 0 [(r0, 15, 49, .int pv), (r0, 15, 48, .ref zm), (r0, 15, 0, .ref zs), (r0, 15, 1, .ref zn), (r0, 15, 2, .ref za), (r0, 15, 3, .ref zb), (r0, 15, 4, .ref zc), (r0, 15, 14, .ref zy)] [(zm, 164, 100, ca 1, fm), (zs, 150, 120000, ca 1, C.s), (zn, 151, 120000, ca 1, C.n), (za, 152, 120000, ca 1, C.a), (zb, 153, 120000, ca 1, C.b), (zc, 154, 120000, ca 1, C.c), (zy, 165, 16, ca 1, C.y)] [] H_1 locs_1 → (0 ≤ v3_1.toInt ∧ v3_1.toInt ≤ M + 11) → (M + 12 - v3_1.toInt : Int) < N → ∀ ls : Array Slot, lv_has ls 4 [(0, .ref r0), (1, .int a1), (2, .int a2), (3, .int v3_1)] → W p l e R s m ([.ref r0, .int a1, .int a2] : List Value).toArray below meth c H_1 locs_1 0 0 Q (F0 m 2 ls []) := by
    intro N
    induction N with
    | zero => intro v3_1 H_1 locs_1 hh_1  hi_1 hm; exact absurd hm (by omega)
    | succ N L2 =>
      intro v3_1 H_1 locs_1 hh_1  hi_1 hm_1 ls hl
      obtain ⟨hi_1_0, hi_1_1⟩ := hi_1
      refine lv_aload_n hx hb dX13_quantified_2 rfl (lv_at hl 0 rfl) ?_
      refine lv_aload_n hx hb dX13_quantified_3 rfl (lv_at hl 0 rfl) ?_
      refine j7_read hx hb hown hK (C := RX13) (T := TX13) (N := 50) rfl hly_15_2 hlk_19 (hh_1.at 4 rfl) dX13_quantified_4 ?_
      refine lv_iload_n hx hb dX13_quantified_7 rfl (lv_at hl 1 rfl) ?_
      refine j7_ialdM hx hb hK hh_1 hB152 1 rfl (by decide) hg_za (x := a1.toInt) (rfl) (by omega) (j := 3) rfl dX13_quantified_8 (fun z_2 ez_2 (hz_2 : True) => ?_)
      have hqz_2 : z_2.toInt = jSo C.a (a1.toInt) := by unfold jSo; rw [ez_2]
      refine lv_iconst (v := 0) hx hb dX13_quantified_9 (by decide) ?_
      refine lv_aload_n hx hb dX13_quantified_10 rfl (lv_at hl 0 rfl) ?_
      refine j7_read hx hb hown hK (C := RX13) (T := TX13) (N := 50) rfl hly_15_1 hlk_16 (hh_1.at 3 rfl) dX13_quantified_11 ?_
      refine lv_iload_n hx hb dX13_quantified_14 rfl (lv_at hl 1 rfl) ?_
      refine j7_ialdM hx hb hK hh_1 hB151 1 rfl (by decide) hg_zn (x := a1.toInt) (rfl) (by omega) (j := 2) rfl dX13_quantified_15 (fun z_3 ez_3 (hz_3 : True) => ?_)
      have hqz_3 : z_3.toInt = jSo C.n (a1.toInt) := by unfold jSo; rw [ez_3]
      refine lv_iload_n hx hb dX13_quantified_16 rfl (lv_at hl 3 rfl) ?_
      refine va_calli (A0 := jA base) (H0 := s.heap) (va_runV (As := [.int z_2, .int 0, .int z_3, .int v3_1]) (rest := []) ⟨hx, hb, hml, hown, hts⟩ (aX13_stands l dC dI ca base B hB hAp hB15 hB150 hB151 hB152 hB153 hB154 hB155 hB156 hB163 hB164 hB165 hB166 (d - 1) G0 H_1 r0 z_2 0 z_3 v3_1 pv zm zs zn za zb zc zy M fm C) (cwV 4 hts (jgV (jWr_72 _ (List.mem_of_getElem? (i := 0) rfl)) (jWr_72 _ (List.mem_of_getElem? (i := 1) rfl)) (jWr_72 _ (List.mem_of_getElem? (i := 2) rfl)) (jWr_12 _ (List.mem_of_getElem? (i := 12) rfl)) (jWr_72 _ (List.mem_of_getElem? (i := 3) rfl))) rfl rfl rfl (by decide +kernel) ⟨by rw [← hR]; show ((d - 1) + 6) + 1 ≤ 3 * d + 8; omega, by rw [← hR]; show 8 + (8 + 11) + (60 * (d - 1) + 300) ≤ 90 * d + 960; omega⟩) ⟨fun a U g mk q => by obtain ⟨q0, q1, q2, qK, q10, q11, q12, q13, q14, q15, q16, q17, q18, q19, q20⟩ := q; exact ⟨q0, q1, q2, jG.calling g mk a qK, q10, q11, q12, q13, q14, q15, q16, q17, q18, q19, q20⟩, hh_1.recv (C := RX13) (T := TX13) (N := 50) hB15 rfl (by decide) hg_r0 hK, fun U hU hW => ⟨rfl, hU, hh_1.2.1, hG.step hW hU hh_1.1, hg_r0, hg_zm, hg_zs, hg_zn, hg_za, hg_zb, hg_zc, hg_zy, (hh_1.2.2.1.sub (L1 := [(r0, 15, 49, .int pv), (r0, 15, 48, .ref zm), (r0, 15, 0, .ref zs), (r0, 15, 1, .ref zn), (r0, 15, 2, .ref za), (r0, 15, 3, .ref zb), (r0, 15, 4, .ref zc), (r0, 15, 14, .ref zy)]) [0, 1, 2, 3, 4, 5, 6, 7] rfl), (hh_1.2.2.2.2.2.2.2.1.sub (L1 := [(zm, 164, 100, ca 1, fm), (zs, 150, 120000, ca 1, C.s), (zn, 151, 120000, ca 1, C.n), (za, 152, 120000, ca 1, C.a), (zb, 153, 120000, ca 1, C.b), (zc, 154, 120000, ca 1, C.c), (zy, 165, 16, ca 1, C.y)]) [0, 1, 2, 3, 4, 5, 6] rfl), ⟨(by first | assumption | (rw [hqz_2, hk0, Int.add_zero]; exact h1p.1) | exact hp1 | omega), (by first | assumption | (rw [hqz_2, hk0, Int.add_zero]; exact h1p.1) | exact hp1 | omega), (by first | omega | rfl | assumption | (rw [hqz_2, hk0, Int.add_zero]; exact h1p.1) | exact hp1), (by first | omega | rfl | assumption | (rw [hqz_2, hk0, Int.add_zero]; exact h1p.1) | exact hp1), (by first | omega | rfl | assumption | (rw [hqz_2, hk0, Int.add_zero]; exact h1p.1) | exact hp1), (by first | omega | rfl | assumption | (rw [hqz_2, hk0, Int.add_zero]; exact h1p.1) | exact hp1), (by first | omega | rfl | assumption | (rw [hqz_2, hk0, Int.add_zero]; exact h1p.1) | exact hp1), (by first | omega | rfl | assumption | (rw [hqz_2, hk0, Int.add_zero]; exact h1p.1) | exact hp1), (by first | omega | rfl | assumption | (rw [hqz_2, hk0, Int.add_zero]; exact h1p.1) | exact hp1), (by first | omega | rfl | assumption | (rw [hqz_2, hk0, Int.add_zero]; exact h1p.1) | exact hp1), (by first | omega | rfl | assumption | (rw [hqz_2, hk0, Int.add_zero]; exact h1p.1) | exact hp1), (by first | omega | rfl | assumption | (rw [hqz_2, hk0, Int.add_zero]; exact h1p.1) | exact hp1)⟩⟩⟩ rfl rfl hl.1 rfl (lv_room (Nat.le_of_ble_eq_true rfl)) dX13_quantified_17 ⟨Nat.zero_le _, Nat.zero_le _⟩) hh_1.1 (fun q _ h => h) (fun q h => h) (fun r_5 u_4 t_4 H_4 locs_4 ht_4 hvm_4 hr_5 hb_4 hz_4 hk_4 hS_4 => ?_)
      rw [ht_4] at hb_4
      obtain ⟨hb_41, hb_42, hb_43, hb_44, hb_45⟩ := hb_4
      have hh_4 : jSt (dC, dI) B base G0 G0 EX13_quantified s.heap 0 0 [(r0, 15, 49, .int pv), (r0, 15, 48, .ref zm), (r0, 15, 0, .ref zs), (r0, 15, 1, .ref zn), (r0, 15, 2, .ref za), (r0, 15, 3, .ref zb), (r0, 15, 4, .ref zc), (r0, 15, 14, .ref zy)] [(zm, 164, 100, ca 1, fm), (zs, 150, 120000, ca 1, C.s), (zn, 151, 120000, ca 1, C.n), (za, 152, 120000, ca 1, C.a), (zb, 153, 120000, ca 1, C.b), (zc, 154, 120000, ca 1, C.c), (zy, 165, 16, ca 1, C.y)] [] H_4 locs_4 := ((hh_1.call hb_41 hb_42 hb_43 hb_44 hS_4 rfl (L1 := [(r0, 15, 49, .int pv), (r0, 15, 48, .ref zm), (r0, 15, 0, .ref zs), (r0, 15, 1, .ref zn), (r0, 15, 2, .ref za), (r0, 15, 3, .ref zb), (r0, 15, 4, .ref zc), (r0, 15, 14, .ref zy)]) [0, 1, 2, 3, 4, 5, 6, 7] rfl rfl (M1 := [(zm, 164, 100, ca 1, fm), (zs, 150, 120000, ca 1, C.s), (zn, 151, 120000, ca 1, C.n), (za, 152, 120000, ca 1, C.a), (zb, 153, 120000, ca 1, C.b), (zc, 154, 120000, ca 1, C.c), (zy, 165, 16, ca 1, C.y)]) [0, 1, 2, 3, 4, 5, 6] rfl rfl (I1 := []) [] rfl rfl).more hb_45)
      clear hh_1 ht_4 hvm_4 hz_4 hk_4 hS_4 hb_41 hb_42 hb_43 hb_44 hb_45
      obtain ⟨hr_5b, hr_5p⟩ := hr_5
      have hr_5' := jb_01 hr_5b
      refine lv_if_eq (tgt := 29) hx hb dX13_quantified_20 (by decide) (fun c_6 => ?_) (fun c_6 => ?_)
      · skip
        have c_6' : r_5.toInt = 0 := jb_eq (rfl) ((by decide)) c_6
        refine lv_aload_n hx hb dX13_quantified_29 rfl (lv_at hl 0 rfl) ?_
        refine lv_iload_n hx hb dX13_quantified_30 rfl (lv_at hl 2 rfl) ?_
        refine lv_iconst (v := 4) hx hb dX13_quantified_31 (by decide) ?_
        refine lv_icmp_ne (tgt := 41) hx hb dX13_quantified_32 (by decide) (fun c_7 => ?_) (fun c_7 => ?_)
        · skip
          have c_7' : a2.toInt ≠ 4 := jb_ne (rfl) ((by decide)) c_7
          refine j_ldcSw hx hb hown rstr425 dX13_quantified_41 ?_
          refine va_callv (A0 := jA base) (H0 := s.heap) (va_runV (As := [.ref str425]) (rest := []) ⟨hx, hb, hml, hown, hts⟩ (uX13_words l dC dI ca base B hB hAp hB15 hB101 G0 H_4 r0 str425 7) (cwV 1 hts (jgV (jWr_70 _ (List.mem_of_getElem? (i := 20) rfl)) (jWr_70 _ (List.mem_of_getElem? (i := 21) rfl)) (jWr_70 _ (List.mem_of_getElem? (i := 22) rfl)) (jWr_12 _ (List.mem_of_getElem? (i := 12) rfl)) (jWr_70 _ (List.mem_of_getElem? (i := 23) rfl))) rfl rfl rfl (by decide +kernel) ⟨by rw [← hR]; show (4) + 1 ≤ 3 * d + 8; omega, by rw [← hR]; show 8 + (3 + 11) + (141) ≤ 90 * d + 960; omega⟩) ⟨fun a U g mk q => by obtain ⟨q0, q1, q2, qK, q10, q11, q12, q13⟩ := q; exact ⟨q0, q1, q2, jG.calling g mk a qK, (q10.moved (Vm.Alike.refl U.vm)), q11, q12, q13⟩, hh_4.recv (C := RX13) (T := TX13) (N := 50) hB15 rfl (by decide) hg_r0 hK, fun U hU hW => ⟨rfl, hU, hh_4.2.1, hG.step hW hU hh_4.1, (hstr425.moved hW.alike).kept hh_4.1.2.1, hg_r0, jP.nil, by first | omega | rfl | assumption | decide | exact Or.inl rfl | exact Or.inr rfl | (simp only; omega)⟩⟩ rfl rfl hl.1 rfl (lv_room (Nat.le_of_ble_eq_true rfl)) dX13_quantified_44 ⟨Nat.zero_le _, Nat.zero_le _⟩) hh_4.1 (fun q _ h => h) (fun q h => h) (fun u_8 t_8 H_8 locs_8 ht_8 hvm_8 hr_9 hb_8 hz_8 hk_8 hS_8 => ?_)
          rw [ht_8] at hb_8
          obtain ⟨hb_81, hb_82, hb_83, hb_84, hb_85⟩ := hb_8
          have hh_8 : jSt (dC, dI) B base G0 G0 EX13_quantified s.heap 0 0 [(r0, 15, 49, .int pv), (r0, 15, 48, .ref zm), (r0, 15, 0, .ref zs), (r0, 15, 1, .ref zn), (r0, 15, 2, .ref za), (r0, 15, 3, .ref zb), (r0, 15, 4, .ref zc), (r0, 15, 14, .ref zy)] [(zm, 164, 100, ca 1, fm), (zs, 150, 120000, ca 1, C.s), (zn, 151, 120000, ca 1, C.n), (za, 152, 120000, ca 1, C.a), (zb, 153, 120000, ca 1, C.b), (zc, 154, 120000, ca 1, C.c), (zy, 165, 16, ca 1, C.y)] [] H_8 locs_8 := ((hh_4.call hb_81 hb_82 hb_83 hb_84 hS_8 rfl (L1 := [(r0, 15, 49, .int pv), (r0, 15, 48, .ref zm), (r0, 15, 0, .ref zs), (r0, 15, 1, .ref zn), (r0, 15, 2, .ref za), (r0, 15, 3, .ref zb), (r0, 15, 4, .ref zc), (r0, 15, 14, .ref zy)]) [0, 1, 2, 3, 4, 5, 6, 7] rfl rfl (M1 := [(zm, 164, 100, ca 1, fm), (zs, 150, 120000, ca 1, C.s), (zn, 151, 120000, ca 1, C.n), (za, 152, 120000, ca 1, C.a), (zb, 153, 120000, ca 1, C.b), (zc, 154, 120000, ca 1, C.c), (zy, 165, 16, ca 1, C.y)]) [0, 1, 2, 3, 4, 5, 6] rfl rfl (I1 := []) [] rfl rfl).more hb_85)
          clear hh_4 ht_8 hvm_8 hz_8 hk_8 hS_8 hb_81 hb_82 hb_83 hb_84 hb_85
          refine lv_aload_n hx hb dX13_quantified_47 rfl (lv_at hl 0 rfl) ?_
          obtain ⟨v_10, hv_10, hh_11⟩ := hh_8.pin (C := RX13) (T := TX13) (N := 50) hB15 rfl (by decide) hg_r0 (i := 47) (by decide) rfl
          clear hh_8
          obtain ⟨writtenName_12, rfl, hg_writtenName_12⟩ := hv_10
          refine j7_read hx hb hown hK (C := RX13) (T := TX13) (N := 50) rfl hly_15_47 hlk_93 (hh_11.at 0 rfl) dX13_quantified_48 ?_
          refine lv_aload_n hx hb dX13_quantified_51 rfl (lv_at hl 0 rfl) ?_
          refine j7_read hx hb hown hK (C := RX13) (T := TX13) (N := 50) rfl hly_15_49 hlk_388 (hh_11.at 1 rfl) dX13_quantified_52 ?_
          refine lv_aload_n hx hb dX13_quantified_55 rfl (lv_at hl 0 rfl) ?_
          refine j7_read hx hb hown hK (C := RX13) (T := TX13) (N := 50) rfl hly_15_1 hlk_16 (hh_11.at 4 rfl) dX13_quantified_56 ?_
          refine lv_iload_n hx hb dX13_quantified_59 rfl (lv_at hl 1 rfl) ?_
          refine j7_ialdM hx hb hK hh_11 hB151 1 rfl (by decide) hg_zn (x := a1.toInt) (rfl) (by omega) (j := 2) rfl dX13_quantified_60 (fun z_13 ez_13 (hz_13 : True) => ?_)
          have hqz_13 : z_13.toInt = jSo C.n (a1.toInt) := by unfold jSo; rw [ez_13]
          refine j7_iast hx hb hK hh_11 hB hB163 1 rfl (by decide) (by decide) rfl rfl rfl hg_writtenName_12 (x := pv.toInt) (rfl) (by omega) (by first | omega | (refine ⟨?_, ?_⟩ <;> (first | omega | rfl | assumption | decide | exact Or.inl rfl | exact Or.inr rfl | (simp only; omega)))) dX13_quantified_61 (fun H_14 locs_14 hh_14 => ?_)
          clear hh_11
          refine lv_aload_n hx hb dX13_quantified_62 rfl (lv_at hl 0 rfl) ?_
          refine j7_read hx hb hown hK (C := RX13) (T := TX13) (N := 50) rfl hly_15_48 hlk_96 (hh_14.at 2 rfl) dX13_quantified_63 ?_
          refine lv_aload_n hx hb dX13_quantified_66 rfl (lv_at hl 0 rfl) ?_
          refine j7_read hx hb hown hK (C := RX13) (T := TX13) (N := 50) rfl hly_15_49 hlk_388 (hh_14.at 1 rfl) dX13_quantified_67 ?_
          refine lv_iload_n hx hb dX13_quantified_70 rfl (lv_at hl 3 rfl) ?_
          refine j7_iastU hx hb hK hh_14 hB hB164 1 rfl (by decide) (by decide) rfl 0 rfl (M1 := [(zs, 150, 120000, ca 1, C.s), (zn, 151, 120000, ca 1, C.n), (za, 152, 120000, ca 1, C.a), (zb, 153, 120000, ca 1, C.b), (zc, 154, 120000, ca 1, C.c), (zy, 165, 16, ca 1, C.y)]) [1, 2, 3, 4, 5, 6] rfl rfl rfl hg_zm (x := pv.toInt) (rfl) (by omega) (by first | omega | (refine ⟨?_, ?_⟩ <;> (first | omega | rfl | assumption | decide | exact Or.inl rfl | exact Or.inr rfl | (simp only; omega)))) dX13_quantified_71 (fun H_15 locs_15 fs_16 hv_15 ho_15 hh_15 => ?_)
          have hv_15 : jSo fs_16 (pv.toInt) = v3_1.toInt := by unfold jSo; rw [hv_15]; try exact rfl
          clear hh_14
          refine lv_aload_n hx hb dX13_quantified_72 rfl (lv_at hl 0 rfl) ?_
          refine lv_dup hx hb dX13_quantified_73 rfl ?_
          refine j7_read hx hb hown hK (C := RX13) (T := TX13) (N := 50) rfl hly_15_49 hlk_388 (hh_15.at 1 rfl) dX13_quantified_74 ?_
          refine lv_iconst (v := 1) hx hb dX13_quantified_77 (by decide) ?_
          refine lv_iadd hx hb dX13_quantified_78 ?_
          refine lv_topi (fun z_17 ez_17 => ?_)
          have hz_17 : z_17.toInt = pv.toInt + 1 := by rw [ez_17]; exact jb_iadd2 (rfl) ((by decide)) (by omega)
          refine j7_put hx hb hown hK hh_15 hB hAp hB15 (C := RX13) (T := TX13) (N := 50) rfl (by decide) hg_r0 (i := 49) (by decide) hly_15_49 rfl hlk_388 rfl (ty := .int) (v := .int z_17) (by decide +kernel) rfl rfl (⟨_, rfl, by omega, by omega⟩) rfl (L1 := [(r0, 15, 47, .ref writtenName_12), (r0, 15, 48, .ref zm), (r0, 15, 0, .ref zs), (r0, 15, 1, .ref zn), (r0, 15, 2, .ref za), (r0, 15, 3, .ref zb), (r0, 15, 4, .ref zc), (r0, 15, 14, .ref zy)]) [0, 2, 3, 4, 5, 6, 7, 8] rfl rfl rfl dX13_quantified_79 (fun H_18 locs_18 hh_18 => ?_)
          clear hh_15
          refine lv_aload_n hx hb dX13_quantified_82 rfl (lv_at hl 0 rfl) ?_
          refine lv_aload_n hx hb dX13_quantified_83 rfl (lv_at hl 0 rfl) ?_
          refine j7_read hx hb hown hK (C := RX13) (T := TX13) (N := 50) rfl hly_15_49 hlk_388 (hh_18.at 0 rfl) dX13_quantified_84 ?_
          refine lv_iconst (v := 1) hx hb dX13_quantified_87 (by decide) ?_
          refine lv_isub hx hb dX13_quantified_88 ?_
          refine lv_topi (fun z_19 ez_19 => ?_)
          have hz_19 : z_19.toInt = z_17.toInt - 1 := by rw [ez_19]; exact jb_isub2 (rfl) ((by decide)) (by omega)
          refine va_callv (A0 := jA base) (H0 := s.heap) (va_runV (As := [.int z_19]) (rest := []) ⟨hx, hb, hml, hown, hts⟩ (uX13_putBound l dC dI ca base B hB hAp hB15 hB101 hB155 hB156 hB163 hB164 hB166 G0 H_18 r0 z_19) (cwV 1 hts (jgV (jWr_71 _ (List.mem_of_getElem? (i := 12) rfl)) (jWr_71 _ (List.mem_of_getElem? (i := 13) rfl)) (jWr_71 _ (List.mem_of_getElem? (i := 14) rfl)) (jWr_12 _ (List.mem_of_getElem? (i := 12) rfl)) (jWr_71 _ (List.mem_of_getElem? (i := 15) rfl))) rfl rfl rfl (by decide +kernel) ⟨by rw [← hR]; show (2) + 1 ≤ 3 * d + 8; omega, by rw [← hR]; show 8 + (3 + 11) + (43) ≤ 90 * d + 960; omega⟩) ⟨fun a U g mk q => by obtain ⟨q0, q1, q2, qK, q10, q11, q12⟩ := q; exact ⟨q0, q1, q2, jG.calling g mk a qK, q10, q11, q12⟩, hh_18.recv (C := RX13) (T := TX13) (N := 50) hB15 rfl (by decide) hg_r0 hK, fun U hU hW => ⟨rfl, hU, hh_18.2.1, hG.step hW hU hh_18.1, hg_r0, jP.nil, by first | omega | (refine ⟨?_, ?_⟩ <;> (first | omega | rfl | assumption | decide | exact Or.inl rfl | exact Or.inr rfl | (simp only; omega)))⟩⟩ rfl rfl hl.1 rfl (lv_room (Nat.le_of_ble_eq_true rfl)) dX13_quantified_89 ⟨Nat.zero_le _, Nat.zero_le _⟩) hh_18.1 (fun q _ h => h) (fun q h => h) (fun u_20 t_20 H_20 locs_20 ht_20 hvm_20 hr_21 hb_20 hz_20 hk_20 hS_20 => ?_)
          rw [ht_20] at hb_20
          obtain ⟨hb_201, hb_202, hb_203, hb_204, hb_205⟩ := hb_20
          have hh_20 : jSt (dC, dI) B base G0 G0 EX13_quantified s.heap 0 0 [(r0, 15, 49, .int z_17), (r0, 15, 47, .ref writtenName_12), (r0, 15, 48, .ref zm), (r0, 15, 0, .ref zs), (r0, 15, 1, .ref zn), (r0, 15, 2, .ref za), (r0, 15, 3, .ref zb), (r0, 15, 4, .ref zc), (r0, 15, 14, .ref zy)] [(zm, 164, 100, ca 1, fs_16), (zs, 150, 120000, ca 1, C.s), (zn, 151, 120000, ca 1, C.n), (za, 152, 120000, ca 1, C.a), (zb, 153, 120000, ca 1, C.b), (zc, 154, 120000, ca 1, C.c), (zy, 165, 16, ca 1, C.y)] [] H_20 locs_20 := ((hh_18.call hb_201 hb_202 hb_203 hb_204 hS_20 rfl (L1 := [(r0, 15, 49, .int z_17), (r0, 15, 47, .ref writtenName_12), (r0, 15, 48, .ref zm), (r0, 15, 0, .ref zs), (r0, 15, 1, .ref zn), (r0, 15, 2, .ref za), (r0, 15, 3, .ref zb), (r0, 15, 4, .ref zc), (r0, 15, 14, .ref zy)]) [0, 1, 2, 3, 4, 5, 6, 7, 8] rfl rfl (M1 := [(zm, 164, 100, ca 1, fs_16), (zs, 150, 120000, ca 1, C.s), (zn, 151, 120000, ca 1, C.n), (za, 152, 120000, ca 1, C.a), (zb, 153, 120000, ca 1, C.b), (zc, 154, 120000, ca 1, C.c), (zy, 165, 16, ca 1, C.y)]) [0, 1, 2, 3, 4, 5, 6] rfl rfl (I1 := []) [] rfl rfl).more hb_205)
          clear hh_18 ht_20 hvm_20 hz_20 hk_20 hS_20 hb_201 hb_202 hb_203 hb_204 hb_205
          refine lv_aload_n hx hb dX13_quantified_92 rfl (lv_at hl 0 rfl) ?_
          refine j_ldcSw hx hb hown rstr427 dX13_quantified_93 ?_
          refine va_callv (A0 := jA base) (H0 := s.heap) (va_runV (As := [.ref str427]) (rest := []) ⟨hx, hb, hml, hown, hts⟩ (uX13_words l dC dI ca base B hB hAp hB15 hB101 G0 H_20 r0 str427 2) (cwV 1 hts (jgV (jWr_70 _ (List.mem_of_getElem? (i := 20) rfl)) (jWr_70 _ (List.mem_of_getElem? (i := 21) rfl)) (jWr_70 _ (List.mem_of_getElem? (i := 22) rfl)) (jWr_12 _ (List.mem_of_getElem? (i := 12) rfl)) (jWr_70 _ (List.mem_of_getElem? (i := 23) rfl))) rfl rfl rfl (by decide +kernel) ⟨by rw [← hR]; show (4) + 1 ≤ 3 * d + 8; omega, by rw [← hR]; show 8 + (3 + 11) + (141) ≤ 90 * d + 960; omega⟩) ⟨fun a U g mk q => by obtain ⟨q0, q1, q2, qK, q10, q11, q12, q13⟩ := q; exact ⟨q0, q1, q2, jG.calling g mk a qK, (q10.moved (Vm.Alike.refl U.vm)), q11, q12, q13⟩, hh_20.recv (C := RX13) (T := TX13) (N := 50) hB15 rfl (by decide) hg_r0 hK, fun U hU hW => ⟨rfl, hU, hh_20.2.1, hG.step hW hU hh_20.1, (hstr427.moved hW.alike).kept hh_20.1.2.1, hg_r0, jP.nil, by first | omega | rfl | assumption | decide | exact Or.inl rfl | exact Or.inr rfl | (simp only; omega)⟩⟩ rfl rfl hl.1 rfl (lv_room (Nat.le_of_ble_eq_true rfl)) dX13_quantified_96 ⟨Nat.zero_le _, Nat.zero_le _⟩) hh_20.1 (fun q _ h => h) (fun q h => h) (fun u_22 t_22 H_22 locs_22 ht_22 hvm_22 hr_23 hb_22 hz_22 hk_22 hS_22 => ?_)
          rw [ht_22] at hb_22
          obtain ⟨hb_221, hb_222, hb_223, hb_224, hb_225⟩ := hb_22
          have hh_22 : jSt (dC, dI) B base G0 G0 EX13_quantified s.heap 0 0 [(r0, 15, 49, .int z_17), (r0, 15, 47, .ref writtenName_12), (r0, 15, 48, .ref zm), (r0, 15, 0, .ref zs), (r0, 15, 1, .ref zn), (r0, 15, 2, .ref za), (r0, 15, 3, .ref zb), (r0, 15, 4, .ref zc), (r0, 15, 14, .ref zy)] [(zm, 164, 100, ca 1, fs_16), (zs, 150, 120000, ca 1, C.s), (zn, 151, 120000, ca 1, C.n), (za, 152, 120000, ca 1, C.a), (zb, 153, 120000, ca 1, C.b), (zc, 154, 120000, ca 1, C.c), (zy, 165, 16, ca 1, C.y)] [] H_22 locs_22 := ((hh_20.call hb_221 hb_222 hb_223 hb_224 hS_22 rfl (L1 := [(r0, 15, 49, .int z_17), (r0, 15, 47, .ref writtenName_12), (r0, 15, 48, .ref zm), (r0, 15, 0, .ref zs), (r0, 15, 1, .ref zn), (r0, 15, 2, .ref za), (r0, 15, 3, .ref zb), (r0, 15, 4, .ref zc), (r0, 15, 14, .ref zy)]) [0, 1, 2, 3, 4, 5, 6, 7, 8] rfl rfl (M1 := [(zm, 164, 100, ca 1, fs_16), (zs, 150, 120000, ca 1, C.s), (zn, 151, 120000, ca 1, C.n), (za, 152, 120000, ca 1, C.a), (zb, 153, 120000, ca 1, C.b), (zc, 154, 120000, ca 1, C.c), (zy, 165, 16, ca 1, C.y)]) [0, 1, 2, 3, 4, 5, 6] rfl rfl (I1 := []) [] rfl rfl).more hb_225)
          clear hh_20 ht_22 hvm_22 hz_22 hk_22 hS_22 hb_221 hb_222 hb_223 hb_224 hb_225
          refine lv_aload_n hx hb dX13_quantified_99 rfl (lv_at hl 0 rfl) ?_
          refine lv_aload_n hx hb dX13_quantified_100 rfl (lv_at hl 0 rfl) ?_
          refine j7_read hx hb hown hK (C := RX13) (T := TX13) (N := 50) rfl hly_15_2 hlk_19 (hh_22.at 5 rfl) dX13_quantified_101 ?_
          refine lv_iload_n hx hb dX13_quantified_104 rfl (lv_at hl 1 rfl) ?_
          refine j7_ialdM hx hb hK hh_22 hB152 1 rfl (by decide) hg_za (x := a1.toInt) (rfl) (by omega) (j := 3) rfl dX13_quantified_105 (fun z_24 ez_24 (hz_24 : True) => ?_)
          have hqz_24 : z_24.toInt = jSo C.a (a1.toInt) := by unfold jSo; rw [ez_24]
          refine lv_iconst (v := 1) hx hb dX13_quantified_106 (by decide) ?_
          refine va_callv (A0 := jA base) (H0 := s.heap) (va_runV (As := [.int z_24, .int 1]) (rest := []) ⟨hx, hb, hml, hown, hts⟩ (ih (d - 1) (by omega) G0 H_22 r0 z_24 1 z_17 zm zs zn za zb zc zy (M + 11) fs_16 C) (cwV 2 hts (jgV (jWr_71 _ (List.mem_of_getElem? (i := 5) rfl)) (jWr_71 _ (List.mem_of_getElem? (i := 6) rfl)) (jWr_71 _ (List.mem_of_getElem? (i := 7) rfl)) (jWr_12 _ (List.mem_of_getElem? (i := 12) rfl)) (jWr_71 _ (List.mem_of_getElem? (i := 8) rfl))) rfl rfl rfl (by decide +kernel) ⟨by rw [← hR]; show (3 * (d - 1) + 10) + 1 ≤ 3 * d + 8; omega, by rw [← hR]; show 8 + (4 + 11) + (90 * (d - 1) + 1000) ≤ 90 * d + 960; omega⟩) ⟨fun a U g mk q => by obtain ⟨q0, q1, q2, qK, q10, q11, q12, q13, q14, q15, q16, q17, q18, q19, q20, q21⟩ := q; exact ⟨q0, q1, q2, jG.calling g mk a qK, q10, q11, q12, q13, q14, q15, q16, q17, q18, q19, q20, q21⟩, hh_22.recv (C := RX13) (T := TX13) (N := 50) hB15 rfl (by decide) hg_r0 hK, fun U hU hW => ⟨rfl, hU, hh_22.2.1, hG.step hW hU hh_22.1, hg_r0, (Or.inr rfl), hg_zm, hg_zs, hg_zn, hg_za, hg_zb, hg_zc, hg_zy, (hh_22.2.2.1.sub (L1 := [(r0, 15, 49, .int z_17), (r0, 15, 48, .ref zm), (r0, 15, 0, .ref zs), (r0, 15, 1, .ref zn), (r0, 15, 2, .ref za), (r0, 15, 3, .ref zb), (r0, 15, 4, .ref zc), (r0, 15, 14, .ref zy)]) [0, 2, 3, 4, 5, 6, 7, 8] rfl), (hh_22.2.2.2.2.2.2.2.1.sub (L1 := [(zm, 164, 100, ca 1, fs_16), (zs, 150, 120000, ca 1, C.s), (zn, 151, 120000, ca 1, C.n), (za, 152, 120000, ca 1, C.a), (zb, 153, 120000, ca 1, C.b), (zc, 154, 120000, ca 1, C.c), (zy, 165, 16, ca 1, C.y)]) [0, 1, 2, 3, 4, 5, 6] rfl), ⟨(by first | assumption | (rw [hqz_24]; exact h1p.1.mono (Nat.le_refl _) (by omega)) | exact hp1.put hv_15 ho_15 rfl (by omega) (by omega) (by omega) (by omega) (by omega) | omega), (by first | assumption | (rw [hqz_24]; exact h1p.1.mono (Nat.le_refl _) (by omega)) | exact hp1.put hv_15 ho_15 rfl (by omega) (by omega) (by omega) (by omega) (by omega) | omega), (by first | omega | rfl | assumption | (rw [hqz_24]; exact h1p.1.mono (Nat.le_refl _) (by omega)) | exact hp1.put hv_15 ho_15 rfl (by omega) (by omega) (by omega) (by omega) (by omega)), (by first | omega | rfl | assumption | (rw [hqz_24]; exact h1p.1.mono (Nat.le_refl _) (by omega)) | exact hp1.put hv_15 ho_15 rfl (by omega) (by omega) (by omega) (by omega) (by omega)), (by first | omega | rfl | assumption | (rw [hqz_24]; exact h1p.1.mono (Nat.le_refl _) (by omega)) | exact hp1.put hv_15 ho_15 rfl (by omega) (by omega) (by omega) (by omega) (by omega)), (by first | omega | rfl | assumption | (rw [hqz_24]; exact h1p.1.mono (Nat.le_refl _) (by omega)) | exact hp1.put hv_15 ho_15 rfl (by omega) (by omega) (by omega) (by omega) (by omega)), (by first | omega | rfl | assumption | (rw [hqz_24]; exact h1p.1.mono (Nat.le_refl _) (by omega)) | exact hp1.put hv_15 ho_15 rfl (by omega) (by omega) (by omega) (by omega) (by omega))⟩⟩⟩ rfl rfl hl.1 rfl (lv_room (Nat.le_of_ble_eq_true rfl)) dX13_quantified_107 ⟨Nat.zero_le _, Nat.zero_le _⟩) hh_22.1 (fun q _ h => h) (fun q h => h) (fun u_25 t_25 H_25 locs_25 ht_25 hvm_25 hr_26 hb_25 hz_25 hk_25 hS_25 => ?_)
          obtain ⟨qv_25, gm_25⟩ := u_25
          rw [ht_25] at hb_25
          obtain ⟨⟨hb_251, hb_252, hb_253, hb_254, hb_255⟩, hb_256⟩ := hb_25
          have hh_25 : jSt (dC, dI) B base G0 G0 EX13_quantified s.heap 0 0 [(r0, 15, 49, .int qv_25), (r0, 15, 47, .ref writtenName_12), (r0, 15, 48, .ref zm), (r0, 15, 0, .ref zs), (r0, 15, 1, .ref zn), (r0, 15, 2, .ref za), (r0, 15, 3, .ref zb), (r0, 15, 4, .ref zc), (r0, 15, 14, .ref zy)] [(zm, 164, 100, ca 1, gm_25), (zs, 150, 120000, ca 1, C.s), (zn, 151, 120000, ca 1, C.n), (za, 152, 120000, ca 1, C.a), (zb, 153, 120000, ca 1, C.b), (zc, 154, 120000, ca 1, C.c), (zy, 165, 16, ca 1, C.y)] [] H_25 locs_25 := ((hh_22.call hb_251 hb_252 hb_253 hb_254 hS_25 rfl (L1 := [(r0, 15, 47, .ref writtenName_12), (r0, 15, 48, .ref zm), (r0, 15, 0, .ref zs), (r0, 15, 1, .ref zn), (r0, 15, 2, .ref za), (r0, 15, 3, .ref zb), (r0, 15, 4, .ref zc), (r0, 15, 14, .ref zy)]) [1, 2, 3, 4, 5, 6, 7, 8] rfl rfl (M1 := [(zs, 150, 120000, ca 1, C.s), (zn, 151, 120000, ca 1, C.n), (za, 152, 120000, ca 1, C.a), (zb, 153, 120000, ca 1, C.b), (zc, 154, 120000, ca 1, C.c), (zy, 165, 16, ca 1, C.y)]) [1, 2, 3, 4, 5, 6] rfl rfl (I1 := []) [] rfl rfl).more hb_255).moreM hb_256
          clear hh_22 ht_25 hvm_25 hz_25 hk_25 hS_25 hb_251 hb_252 hb_253 hb_254 hb_255
          clear hb_256
          try simp only at hr_26
          obtain ⟨hr_26_0, hr_26_1⟩ := hr_26
          refine lv_aload_n hx hb dX13_quantified_110 rfl (lv_at hl 0 rfl) ?_
          refine lv_dup hx hb dX13_quantified_111 rfl ?_
          refine j7_read hx hb hown hK (C := RX13) (T := TX13) (N := 50) rfl hly_15_49 hlk_388 (hh_25.at 0 rfl) dX13_quantified_112 ?_
          refine lv_iconst (v := 1) hx hb dX13_quantified_115 (by decide) ?_
          refine lv_isub hx hb dX13_quantified_116 ?_
          refine lv_topi (fun z_27 ez_27 => ?_)
          have hz_27 : z_27.toInt = qv_25.toInt - 1 := by rw [ez_27]; exact jb_isub2 (rfl) ((by decide)) (by omega)
          refine j7_put hx hb hown hK hh_25 hB hAp hB15 (C := RX13) (T := TX13) (N := 50) rfl (by decide) hg_r0 (i := 49) (by decide) hly_15_49 rfl hlk_388 rfl (ty := .int) (v := .int z_27) (by decide +kernel) rfl rfl (⟨_, rfl, by omega, by omega⟩) rfl (L1 := [(r0, 15, 47, .ref writtenName_12), (r0, 15, 48, .ref zm), (r0, 15, 0, .ref zs), (r0, 15, 1, .ref zn), (r0, 15, 2, .ref za), (r0, 15, 3, .ref zb), (r0, 15, 4, .ref zc), (r0, 15, 14, .ref zy)]) [1, 2, 3, 4, 5, 6, 7, 8] rfl rfl rfl dX13_quantified_117 (fun H_28 locs_28 hh_28 => ?_)
          clear hh_25
          rw [hQ]
          exact W.vret hx hb hr (fun t ht hW => ⟨⟨(z_27, gm_25), rfl, by (try dsimp only); exact ⟨by omega, jEqK.st hv_15 ho_15 rfl (by omega) (by omega) hr_26_1 (by omega)⟩, ⟨hh_28.rt (M1 := [(r0, 15, 49, .int z_27)]) [0] rfl ht, by rw [ht]; exact hh_28.2.2.2.2.2.2.2.1.sub [0] rfl⟩⟩, by rw [ht]; try exact hh_28.1.1, fun q h9 hq => by rw [ht]; try exact hh_28.1.2.1 q h9 hq⟩) hh_28.1.2.2 dX13_quantified_120
        · skip
          have c_7' : a2.toInt = 4 := jb_ne_n (rfl) ((by decide)) c_7
          refine j_ldcSw hx hb hown rstr423 dX13_quantified_35 ?_
          refine lv_goto (tgt := 44) hx hb dX13_quantified_38 (by decide) ?_
          refine va_callv (A0 := jA base) (H0 := s.heap) (va_runV (As := [.ref str423]) (rest := []) ⟨hx, hb, hml, hown, hts⟩ (uX13_words l dC dI ca base B hB hAp hB15 hB101 G0 H_4 r0 str423 7) (cwV 1 hts (jgV (jWr_70 _ (List.mem_of_getElem? (i := 20) rfl)) (jWr_70 _ (List.mem_of_getElem? (i := 21) rfl)) (jWr_70 _ (List.mem_of_getElem? (i := 22) rfl)) (jWr_12 _ (List.mem_of_getElem? (i := 12) rfl)) (jWr_70 _ (List.mem_of_getElem? (i := 23) rfl))) rfl rfl rfl (by decide +kernel) ⟨by rw [← hR]; show (4) + 1 ≤ 3 * d + 8; omega, by rw [← hR]; show 8 + (3 + 11) + (141) ≤ 90 * d + 960; omega⟩) ⟨fun a U g mk q => by obtain ⟨q0, q1, q2, qK, q10, q11, q12, q13⟩ := q; exact ⟨q0, q1, q2, jG.calling g mk a qK, (q10.moved (Vm.Alike.refl U.vm)), q11, q12, q13⟩, hh_4.recv (C := RX13) (T := TX13) (N := 50) hB15 rfl (by decide) hg_r0 hK, fun U hU hW => ⟨rfl, hU, hh_4.2.1, hG.step hW hU hh_4.1, (hstr423.moved hW.alike).kept hh_4.1.2.1, hg_r0, jP.nil, by first | omega | rfl | assumption | decide | exact Or.inl rfl | exact Or.inr rfl | (simp only; omega)⟩⟩ rfl rfl hl.1 rfl (lv_room (Nat.le_of_ble_eq_true rfl)) dX13_quantified_44 ⟨Nat.zero_le _, Nat.zero_le _⟩) hh_4.1 (fun q _ h => h) (fun q h => h) (fun u_29 t_29 H_29 locs_29 ht_29 hvm_29 hr_30 hb_29 hz_29 hk_29 hS_29 => ?_)
          rw [ht_29] at hb_29
          obtain ⟨hb_291, hb_292, hb_293, hb_294, hb_295⟩ := hb_29
          have hh_29 : jSt (dC, dI) B base G0 G0 EX13_quantified s.heap 0 0 [(r0, 15, 49, .int pv), (r0, 15, 48, .ref zm), (r0, 15, 0, .ref zs), (r0, 15, 1, .ref zn), (r0, 15, 2, .ref za), (r0, 15, 3, .ref zb), (r0, 15, 4, .ref zc), (r0, 15, 14, .ref zy)] [(zm, 164, 100, ca 1, fm), (zs, 150, 120000, ca 1, C.s), (zn, 151, 120000, ca 1, C.n), (za, 152, 120000, ca 1, C.a), (zb, 153, 120000, ca 1, C.b), (zc, 154, 120000, ca 1, C.c), (zy, 165, 16, ca 1, C.y)] [] H_29 locs_29 := ((hh_4.call hb_291 hb_292 hb_293 hb_294 hS_29 rfl (L1 := [(r0, 15, 49, .int pv), (r0, 15, 48, .ref zm), (r0, 15, 0, .ref zs), (r0, 15, 1, .ref zn), (r0, 15, 2, .ref za), (r0, 15, 3, .ref zb), (r0, 15, 4, .ref zc), (r0, 15, 14, .ref zy)]) [0, 1, 2, 3, 4, 5, 6, 7] rfl rfl (M1 := [(zm, 164, 100, ca 1, fm), (zs, 150, 120000, ca 1, C.s), (zn, 151, 120000, ca 1, C.n), (za, 152, 120000, ca 1, C.a), (zb, 153, 120000, ca 1, C.b), (zc, 154, 120000, ca 1, C.c), (zy, 165, 16, ca 1, C.y)]) [0, 1, 2, 3, 4, 5, 6] rfl rfl (I1 := []) [] rfl rfl).more hb_295)
          clear hh_4 ht_29 hvm_29 hz_29 hk_29 hS_29 hb_291 hb_292 hb_293 hb_294 hb_295
          refine lv_aload_n hx hb dX13_quantified_47 rfl (lv_at hl 0 rfl) ?_
          obtain ⟨v_31, hv_31, hh_32⟩ := hh_29.pin (C := RX13) (T := TX13) (N := 50) hB15 rfl (by decide) hg_r0 (i := 47) (by decide) rfl
          clear hh_29
          obtain ⟨writtenName_33, rfl, hg_writtenName_33⟩ := hv_31
          refine j7_read hx hb hown hK (C := RX13) (T := TX13) (N := 50) rfl hly_15_47 hlk_93 (hh_32.at 0 rfl) dX13_quantified_48 ?_
          refine lv_aload_n hx hb dX13_quantified_51 rfl (lv_at hl 0 rfl) ?_
          refine j7_read hx hb hown hK (C := RX13) (T := TX13) (N := 50) rfl hly_15_49 hlk_388 (hh_32.at 1 rfl) dX13_quantified_52 ?_
          refine lv_aload_n hx hb dX13_quantified_55 rfl (lv_at hl 0 rfl) ?_
          refine j7_read hx hb hown hK (C := RX13) (T := TX13) (N := 50) rfl hly_15_1 hlk_16 (hh_32.at 4 rfl) dX13_quantified_56 ?_
          refine lv_iload_n hx hb dX13_quantified_59 rfl (lv_at hl 1 rfl) ?_
          refine j7_ialdM hx hb hK hh_32 hB151 1 rfl (by decide) hg_zn (x := a1.toInt) (rfl) (by omega) (j := 2) rfl dX13_quantified_60 (fun z_34 ez_34 (hz_34 : True) => ?_)
          have hqz_34 : z_34.toInt = jSo C.n (a1.toInt) := by unfold jSo; rw [ez_34]
          refine j7_iast hx hb hK hh_32 hB hB163 1 rfl (by decide) (by decide) rfl rfl rfl hg_writtenName_33 (x := pv.toInt) (rfl) (by omega) (by first | omega | (refine ⟨?_, ?_⟩ <;> (first | omega | rfl | assumption | decide | exact Or.inl rfl | exact Or.inr rfl | (simp only; omega)))) dX13_quantified_61 (fun H_35 locs_35 hh_35 => ?_)
          clear hh_32
          refine lv_aload_n hx hb dX13_quantified_62 rfl (lv_at hl 0 rfl) ?_
          refine j7_read hx hb hown hK (C := RX13) (T := TX13) (N := 50) rfl hly_15_48 hlk_96 (hh_35.at 2 rfl) dX13_quantified_63 ?_
          refine lv_aload_n hx hb dX13_quantified_66 rfl (lv_at hl 0 rfl) ?_
          refine j7_read hx hb hown hK (C := RX13) (T := TX13) (N := 50) rfl hly_15_49 hlk_388 (hh_35.at 1 rfl) dX13_quantified_67 ?_
          refine lv_iload_n hx hb dX13_quantified_70 rfl (lv_at hl 3 rfl) ?_
          refine j7_iastU hx hb hK hh_35 hB hB164 1 rfl (by decide) (by decide) rfl 0 rfl (M1 := [(zs, 150, 120000, ca 1, C.s), (zn, 151, 120000, ca 1, C.n), (za, 152, 120000, ca 1, C.a), (zb, 153, 120000, ca 1, C.b), (zc, 154, 120000, ca 1, C.c), (zy, 165, 16, ca 1, C.y)]) [1, 2, 3, 4, 5, 6] rfl rfl rfl hg_zm (x := pv.toInt) (rfl) (by omega) (by first | omega | (refine ⟨?_, ?_⟩ <;> (first | omega | rfl | assumption | decide | exact Or.inl rfl | exact Or.inr rfl | (simp only; omega)))) dX13_quantified_71 (fun H_36 locs_36 fs_37 hv_36 ho_36 hh_36 => ?_)
          have hv_36 : jSo fs_37 (pv.toInt) = v3_1.toInt := by unfold jSo; rw [hv_36]; try exact rfl
          clear hh_35
          refine lv_aload_n hx hb dX13_quantified_72 rfl (lv_at hl 0 rfl) ?_
          refine lv_dup hx hb dX13_quantified_73 rfl ?_
          refine j7_read hx hb hown hK (C := RX13) (T := TX13) (N := 50) rfl hly_15_49 hlk_388 (hh_36.at 1 rfl) dX13_quantified_74 ?_
          refine lv_iconst (v := 1) hx hb dX13_quantified_77 (by decide) ?_
          refine lv_iadd hx hb dX13_quantified_78 ?_
          refine lv_topi (fun z_38 ez_38 => ?_)
          have hz_38 : z_38.toInt = pv.toInt + 1 := by rw [ez_38]; exact jb_iadd2 (rfl) ((by decide)) (by omega)
          refine j7_put hx hb hown hK hh_36 hB hAp hB15 (C := RX13) (T := TX13) (N := 50) rfl (by decide) hg_r0 (i := 49) (by decide) hly_15_49 rfl hlk_388 rfl (ty := .int) (v := .int z_38) (by decide +kernel) rfl rfl (⟨_, rfl, by omega, by omega⟩) rfl (L1 := [(r0, 15, 47, .ref writtenName_33), (r0, 15, 48, .ref zm), (r0, 15, 0, .ref zs), (r0, 15, 1, .ref zn), (r0, 15, 2, .ref za), (r0, 15, 3, .ref zb), (r0, 15, 4, .ref zc), (r0, 15, 14, .ref zy)]) [0, 2, 3, 4, 5, 6, 7, 8] rfl rfl rfl dX13_quantified_79 (fun H_39 locs_39 hh_39 => ?_)
          clear hh_36
          refine lv_aload_n hx hb dX13_quantified_82 rfl (lv_at hl 0 rfl) ?_
          refine lv_aload_n hx hb dX13_quantified_83 rfl (lv_at hl 0 rfl) ?_
          refine j7_read hx hb hown hK (C := RX13) (T := TX13) (N := 50) rfl hly_15_49 hlk_388 (hh_39.at 0 rfl) dX13_quantified_84 ?_
          refine lv_iconst (v := 1) hx hb dX13_quantified_87 (by decide) ?_
          refine lv_isub hx hb dX13_quantified_88 ?_
          refine lv_topi (fun z_40 ez_40 => ?_)
          have hz_40 : z_40.toInt = z_38.toInt - 1 := by rw [ez_40]; exact jb_isub2 (rfl) ((by decide)) (by omega)
          refine va_callv (A0 := jA base) (H0 := s.heap) (va_runV (As := [.int z_40]) (rest := []) ⟨hx, hb, hml, hown, hts⟩ (uX13_putBound l dC dI ca base B hB hAp hB15 hB101 hB155 hB156 hB163 hB164 hB166 G0 H_39 r0 z_40) (cwV 1 hts (jgV (jWr_71 _ (List.mem_of_getElem? (i := 12) rfl)) (jWr_71 _ (List.mem_of_getElem? (i := 13) rfl)) (jWr_71 _ (List.mem_of_getElem? (i := 14) rfl)) (jWr_12 _ (List.mem_of_getElem? (i := 12) rfl)) (jWr_71 _ (List.mem_of_getElem? (i := 15) rfl))) rfl rfl rfl (by decide +kernel) ⟨by rw [← hR]; show (2) + 1 ≤ 3 * d + 8; omega, by rw [← hR]; show 8 + (3 + 11) + (43) ≤ 90 * d + 960; omega⟩) ⟨fun a U g mk q => by obtain ⟨q0, q1, q2, qK, q10, q11, q12⟩ := q; exact ⟨q0, q1, q2, jG.calling g mk a qK, q10, q11, q12⟩, hh_39.recv (C := RX13) (T := TX13) (N := 50) hB15 rfl (by decide) hg_r0 hK, fun U hU hW => ⟨rfl, hU, hh_39.2.1, hG.step hW hU hh_39.1, hg_r0, jP.nil, by first | omega | (refine ⟨?_, ?_⟩ <;> (first | omega | rfl | assumption | decide | exact Or.inl rfl | exact Or.inr rfl | (simp only; omega)))⟩⟩ rfl rfl hl.1 rfl (lv_room (Nat.le_of_ble_eq_true rfl)) dX13_quantified_89 ⟨Nat.zero_le _, Nat.zero_le _⟩) hh_39.1 (fun q _ h => h) (fun q h => h) (fun u_41 t_41 H_41 locs_41 ht_41 hvm_41 hr_42 hb_41 hz_41 hk_41 hS_41 => ?_)
          rw [ht_41] at hb_41
          obtain ⟨hb_411, hb_412, hb_413, hb_414, hb_415⟩ := hb_41
          have hh_41 : jSt (dC, dI) B base G0 G0 EX13_quantified s.heap 0 0 [(r0, 15, 49, .int z_38), (r0, 15, 47, .ref writtenName_33), (r0, 15, 48, .ref zm), (r0, 15, 0, .ref zs), (r0, 15, 1, .ref zn), (r0, 15, 2, .ref za), (r0, 15, 3, .ref zb), (r0, 15, 4, .ref zc), (r0, 15, 14, .ref zy)] [(zm, 164, 100, ca 1, fs_37), (zs, 150, 120000, ca 1, C.s), (zn, 151, 120000, ca 1, C.n), (za, 152, 120000, ca 1, C.a), (zb, 153, 120000, ca 1, C.b), (zc, 154, 120000, ca 1, C.c), (zy, 165, 16, ca 1, C.y)] [] H_41 locs_41 := ((hh_39.call hb_411 hb_412 hb_413 hb_414 hS_41 rfl (L1 := [(r0, 15, 49, .int z_38), (r0, 15, 47, .ref writtenName_33), (r0, 15, 48, .ref zm), (r0, 15, 0, .ref zs), (r0, 15, 1, .ref zn), (r0, 15, 2, .ref za), (r0, 15, 3, .ref zb), (r0, 15, 4, .ref zc), (r0, 15, 14, .ref zy)]) [0, 1, 2, 3, 4, 5, 6, 7, 8] rfl rfl (M1 := [(zm, 164, 100, ca 1, fs_37), (zs, 150, 120000, ca 1, C.s), (zn, 151, 120000, ca 1, C.n), (za, 152, 120000, ca 1, C.a), (zb, 153, 120000, ca 1, C.b), (zc, 154, 120000, ca 1, C.c), (zy, 165, 16, ca 1, C.y)]) [0, 1, 2, 3, 4, 5, 6] rfl rfl (I1 := []) [] rfl rfl).more hb_415)
          clear hh_39 ht_41 hvm_41 hz_41 hk_41 hS_41 hb_411 hb_412 hb_413 hb_414 hb_415
          refine lv_aload_n hx hb dX13_quantified_92 rfl (lv_at hl 0 rfl) ?_
          refine j_ldcSw hx hb hown rstr427 dX13_quantified_93 ?_
          refine va_callv (A0 := jA base) (H0 := s.heap) (va_runV (As := [.ref str427]) (rest := []) ⟨hx, hb, hml, hown, hts⟩ (uX13_words l dC dI ca base B hB hAp hB15 hB101 G0 H_41 r0 str427 2) (cwV 1 hts (jgV (jWr_70 _ (List.mem_of_getElem? (i := 20) rfl)) (jWr_70 _ (List.mem_of_getElem? (i := 21) rfl)) (jWr_70 _ (List.mem_of_getElem? (i := 22) rfl)) (jWr_12 _ (List.mem_of_getElem? (i := 12) rfl)) (jWr_70 _ (List.mem_of_getElem? (i := 23) rfl))) rfl rfl rfl (by decide +kernel) ⟨by rw [← hR]; show (4) + 1 ≤ 3 * d + 8; omega, by rw [← hR]; show 8 + (3 + 11) + (141) ≤ 90 * d + 960; omega⟩) ⟨fun a U g mk q => by obtain ⟨q0, q1, q2, qK, q10, q11, q12, q13⟩ := q; exact ⟨q0, q1, q2, jG.calling g mk a qK, (q10.moved (Vm.Alike.refl U.vm)), q11, q12, q13⟩, hh_41.recv (C := RX13) (T := TX13) (N := 50) hB15 rfl (by decide) hg_r0 hK, fun U hU hW => ⟨rfl, hU, hh_41.2.1, hG.step hW hU hh_41.1, (hstr427.moved hW.alike).kept hh_41.1.2.1, hg_r0, jP.nil, by first | omega | rfl | assumption | decide | exact Or.inl rfl | exact Or.inr rfl | (simp only; omega)⟩⟩ rfl rfl hl.1 rfl (lv_room (Nat.le_of_ble_eq_true rfl)) dX13_quantified_96 ⟨Nat.zero_le _, Nat.zero_le _⟩) hh_41.1 (fun q _ h => h) (fun q h => h) (fun u_43 t_43 H_43 locs_43 ht_43 hvm_43 hr_44 hb_43 hz_43 hk_43 hS_43 => ?_)
          rw [ht_43] at hb_43
          obtain ⟨hb_431, hb_432, hb_433, hb_434, hb_435⟩ := hb_43
          have hh_43 : jSt (dC, dI) B base G0 G0 EX13_quantified s.heap 0 0 [(r0, 15, 49, .int z_38), (r0, 15, 47, .ref writtenName_33), (r0, 15, 48, .ref zm), (r0, 15, 0, .ref zs), (r0, 15, 1, .ref zn), (r0, 15, 2, .ref za), (r0, 15, 3, .ref zb), (r0, 15, 4, .ref zc), (r0, 15, 14, .ref zy)] [(zm, 164, 100, ca 1, fs_37), (zs, 150, 120000, ca 1, C.s), (zn, 151, 120000, ca 1, C.n), (za, 152, 120000, ca 1, C.a), (zb, 153, 120000, ca 1, C.b), (zc, 154, 120000, ca 1, C.c), (zy, 165, 16, ca 1, C.y)] [] H_43 locs_43 := ((hh_41.call hb_431 hb_432 hb_433 hb_434 hS_43 rfl (L1 := [(r0, 15, 49, .int z_38), (r0, 15, 47, .ref writtenName_33), (r0, 15, 48, .ref zm), (r0, 15, 0, .ref zs), (r0, 15, 1, .ref zn), (r0, 15, 2, .ref za), (r0, 15, 3, .ref zb), (r0, 15, 4, .ref zc), (r0, 15, 14, .ref zy)]) [0, 1, 2, 3, 4, 5, 6, 7, 8] rfl rfl (M1 := [(zm, 164, 100, ca 1, fs_37), (zs, 150, 120000, ca 1, C.s), (zn, 151, 120000, ca 1, C.n), (za, 152, 120000, ca 1, C.a), (zb, 153, 120000, ca 1, C.b), (zc, 154, 120000, ca 1, C.c), (zy, 165, 16, ca 1, C.y)]) [0, 1, 2, 3, 4, 5, 6] rfl rfl (I1 := []) [] rfl rfl).more hb_435)
          clear hh_41 ht_43 hvm_43 hz_43 hk_43 hS_43 hb_431 hb_432 hb_433 hb_434 hb_435
          refine lv_aload_n hx hb dX13_quantified_99 rfl (lv_at hl 0 rfl) ?_
          refine lv_aload_n hx hb dX13_quantified_100 rfl (lv_at hl 0 rfl) ?_
          refine j7_read hx hb hown hK (C := RX13) (T := TX13) (N := 50) rfl hly_15_2 hlk_19 (hh_43.at 5 rfl) dX13_quantified_101 ?_
          refine lv_iload_n hx hb dX13_quantified_104 rfl (lv_at hl 1 rfl) ?_
          refine j7_ialdM hx hb hK hh_43 hB152 1 rfl (by decide) hg_za (x := a1.toInt) (rfl) (by omega) (j := 3) rfl dX13_quantified_105 (fun z_45 ez_45 (hz_45 : True) => ?_)
          have hqz_45 : z_45.toInt = jSo C.a (a1.toInt) := by unfold jSo; rw [ez_45]
          refine lv_iconst (v := 1) hx hb dX13_quantified_106 (by decide) ?_
          refine va_callv (A0 := jA base) (H0 := s.heap) (va_runV (As := [.int z_45, .int 1]) (rest := []) ⟨hx, hb, hml, hown, hts⟩ (ih (d - 1) (by omega) G0 H_43 r0 z_45 1 z_38 zm zs zn za zb zc zy (M + 11) fs_37 C) (cwV 2 hts (jgV (jWr_71 _ (List.mem_of_getElem? (i := 5) rfl)) (jWr_71 _ (List.mem_of_getElem? (i := 6) rfl)) (jWr_71 _ (List.mem_of_getElem? (i := 7) rfl)) (jWr_12 _ (List.mem_of_getElem? (i := 12) rfl)) (jWr_71 _ (List.mem_of_getElem? (i := 8) rfl))) rfl rfl rfl (by decide +kernel) ⟨by rw [← hR]; show (3 * (d - 1) + 10) + 1 ≤ 3 * d + 8; omega, by rw [← hR]; show 8 + (4 + 11) + (90 * (d - 1) + 1000) ≤ 90 * d + 960; omega⟩) ⟨fun a U g mk q => by obtain ⟨q0, q1, q2, qK, q10, q11, q12, q13, q14, q15, q16, q17, q18, q19, q20, q21⟩ := q; exact ⟨q0, q1, q2, jG.calling g mk a qK, q10, q11, q12, q13, q14, q15, q16, q17, q18, q19, q20, q21⟩, hh_43.recv (C := RX13) (T := TX13) (N := 50) hB15 rfl (by decide) hg_r0 hK, fun U hU hW => ⟨rfl, hU, hh_43.2.1, hG.step hW hU hh_43.1, hg_r0, (Or.inr rfl), hg_zm, hg_zs, hg_zn, hg_za, hg_zb, hg_zc, hg_zy, (hh_43.2.2.1.sub (L1 := [(r0, 15, 49, .int z_38), (r0, 15, 48, .ref zm), (r0, 15, 0, .ref zs), (r0, 15, 1, .ref zn), (r0, 15, 2, .ref za), (r0, 15, 3, .ref zb), (r0, 15, 4, .ref zc), (r0, 15, 14, .ref zy)]) [0, 2, 3, 4, 5, 6, 7, 8] rfl), (hh_43.2.2.2.2.2.2.2.1.sub (L1 := [(zm, 164, 100, ca 1, fs_37), (zs, 150, 120000, ca 1, C.s), (zn, 151, 120000, ca 1, C.n), (za, 152, 120000, ca 1, C.a), (zb, 153, 120000, ca 1, C.b), (zc, 154, 120000, ca 1, C.c), (zy, 165, 16, ca 1, C.y)]) [0, 1, 2, 3, 4, 5, 6] rfl), ⟨(by first | assumption | (rw [hqz_45]; exact h1p.1.mono (Nat.le_refl _) (by omega)) | exact hp1.put hv_36 ho_36 rfl (by omega) (by omega) (by omega) (by omega) (by omega) | omega), (by first | assumption | (rw [hqz_45]; exact h1p.1.mono (Nat.le_refl _) (by omega)) | exact hp1.put hv_36 ho_36 rfl (by omega) (by omega) (by omega) (by omega) (by omega) | omega), (by first | omega | rfl | assumption | (rw [hqz_45]; exact h1p.1.mono (Nat.le_refl _) (by omega)) | exact hp1.put hv_36 ho_36 rfl (by omega) (by omega) (by omega) (by omega) (by omega)), (by first | omega | rfl | assumption | (rw [hqz_45]; exact h1p.1.mono (Nat.le_refl _) (by omega)) | exact hp1.put hv_36 ho_36 rfl (by omega) (by omega) (by omega) (by omega) (by omega)), (by first | omega | rfl | assumption | (rw [hqz_45]; exact h1p.1.mono (Nat.le_refl _) (by omega)) | exact hp1.put hv_36 ho_36 rfl (by omega) (by omega) (by omega) (by omega) (by omega)), (by first | omega | rfl | assumption | (rw [hqz_45]; exact h1p.1.mono (Nat.le_refl _) (by omega)) | exact hp1.put hv_36 ho_36 rfl (by omega) (by omega) (by omega) (by omega) (by omega)), (by first | omega | rfl | assumption | (rw [hqz_45]; exact h1p.1.mono (Nat.le_refl _) (by omega)) | exact hp1.put hv_36 ho_36 rfl (by omega) (by omega) (by omega) (by omega) (by omega))⟩⟩⟩ rfl rfl hl.1 rfl (lv_room (Nat.le_of_ble_eq_true rfl)) dX13_quantified_107 ⟨Nat.zero_le _, Nat.zero_le _⟩) hh_43.1 (fun q _ h => h) (fun q h => h) (fun u_46 t_46 H_46 locs_46 ht_46 hvm_46 hr_47 hb_46 hz_46 hk_46 hS_46 => ?_)
          obtain ⟨qv_46, gm_46⟩ := u_46
          rw [ht_46] at hb_46
          obtain ⟨⟨hb_461, hb_462, hb_463, hb_464, hb_465⟩, hb_466⟩ := hb_46
          have hh_46 : jSt (dC, dI) B base G0 G0 EX13_quantified s.heap 0 0 [(r0, 15, 49, .int qv_46), (r0, 15, 47, .ref writtenName_33), (r0, 15, 48, .ref zm), (r0, 15, 0, .ref zs), (r0, 15, 1, .ref zn), (r0, 15, 2, .ref za), (r0, 15, 3, .ref zb), (r0, 15, 4, .ref zc), (r0, 15, 14, .ref zy)] [(zm, 164, 100, ca 1, gm_46), (zs, 150, 120000, ca 1, C.s), (zn, 151, 120000, ca 1, C.n), (za, 152, 120000, ca 1, C.a), (zb, 153, 120000, ca 1, C.b), (zc, 154, 120000, ca 1, C.c), (zy, 165, 16, ca 1, C.y)] [] H_46 locs_46 := ((hh_43.call hb_461 hb_462 hb_463 hb_464 hS_46 rfl (L1 := [(r0, 15, 47, .ref writtenName_33), (r0, 15, 48, .ref zm), (r0, 15, 0, .ref zs), (r0, 15, 1, .ref zn), (r0, 15, 2, .ref za), (r0, 15, 3, .ref zb), (r0, 15, 4, .ref zc), (r0, 15, 14, .ref zy)]) [1, 2, 3, 4, 5, 6, 7, 8] rfl rfl (M1 := [(zs, 150, 120000, ca 1, C.s), (zn, 151, 120000, ca 1, C.n), (za, 152, 120000, ca 1, C.a), (zb, 153, 120000, ca 1, C.b), (zc, 154, 120000, ca 1, C.c), (zy, 165, 16, ca 1, C.y)]) [1, 2, 3, 4, 5, 6] rfl rfl (I1 := []) [] rfl rfl).more hb_465).moreM hb_466
          clear hh_43 ht_46 hvm_46 hz_46 hk_46 hS_46 hb_461 hb_462 hb_463 hb_464 hb_465
          clear hb_466
          try simp only at hr_47
          obtain ⟨hr_47_0, hr_47_1⟩ := hr_47
          refine lv_aload_n hx hb dX13_quantified_110 rfl (lv_at hl 0 rfl) ?_
          refine lv_dup hx hb dX13_quantified_111 rfl ?_
          refine j7_read hx hb hown hK (C := RX13) (T := TX13) (N := 50) rfl hly_15_49 hlk_388 (hh_46.at 0 rfl) dX13_quantified_112 ?_
          refine lv_iconst (v := 1) hx hb dX13_quantified_115 (by decide) ?_
          refine lv_isub hx hb dX13_quantified_116 ?_
          refine lv_topi (fun z_48 ez_48 => ?_)
          have hz_48 : z_48.toInt = qv_46.toInt - 1 := by rw [ez_48]; exact jb_isub2 (rfl) ((by decide)) (by omega)
          refine j7_put hx hb hown hK hh_46 hB hAp hB15 (C := RX13) (T := TX13) (N := 50) rfl (by decide) hg_r0 (i := 49) (by decide) hly_15_49 rfl hlk_388 rfl (ty := .int) (v := .int z_48) (by decide +kernel) rfl rfl (⟨_, rfl, by omega, by omega⟩) rfl (L1 := [(r0, 15, 47, .ref writtenName_33), (r0, 15, 48, .ref zm), (r0, 15, 0, .ref zs), (r0, 15, 1, .ref zn), (r0, 15, 2, .ref za), (r0, 15, 3, .ref zb), (r0, 15, 4, .ref zc), (r0, 15, 14, .ref zy)]) [1, 2, 3, 4, 5, 6, 7, 8] rfl rfl rfl dX13_quantified_117 (fun H_49 locs_49 hh_49 => ?_)
          clear hh_46
          rw [hQ]
          exact W.vret hx hb hr (fun t ht hW => ⟨⟨(z_48, gm_46), rfl, by (try dsimp only); exact ⟨by omega, jEqK.st hv_36 ho_36 rfl (by omega) (by omega) hr_47_1 (by omega)⟩, ⟨hh_49.rt (M1 := [(r0, 15, 49, .int z_48)]) [0] rfl ht, by rw [ht]; exact hh_49.2.2.2.2.2.2.2.1.sub [0] rfl⟩⟩, by rw [ht]; try exact hh_49.1.1, fun q h9 hq => by rw [ht]; try exact hh_49.1.2.1 q h9 hq⟩) hh_49.1.2.2 dX13_quantified_120
      · skip
        have c_6' : r_5.toInt ≠ 0 := jb_eq_n (rfl) ((by decide)) c_6
        obtain ⟨z_50, ez_50⟩ : ∃ y : Int32, y = v3_1 + 1 := ⟨_, rfl⟩
        refine lv_iinc (v := z_50) (lv' := [(3, .int z_50), (0, .ref r0), (1, .int a1), (2, .int a2)]) hx hb dX13_quantified_23 hl (k := 3) rfl (by rw [ez_50]; rfl) (by decide) rfl (fun ls hl => ?_)
        have hz_50 : z_50.toInt = v3_1.toInt + 1 := by rw [ez_50]; exact jb_iadd2 (rfl) (by decide) (by omega)
        refine lv_goto (tgt := 2) hx hb dX13_quantified_26 (by decide) ?_
        exact L2 z_50 _ _ hh_4 (by first | omega | (refine ⟨?_, ?_⟩ <;> (first | omega | rfl | assumption | decide | exact Or.inl rfl | exact Or.inr rfl | (simp only; omega)))) (by omega) _ (lv_sub hl [1, 2, 3, 0] rfl)
  exact L2 (M + 12 - (0 : Int32).toInt : Int).toNat.succ 0 _ _ hh (by first | omega | (refine ⟨?_, ?_⟩ <;> (first | omega | rfl | assumption | decide | exact Or.inl rfl | exact Or.inr rfl | (simp only; omega)))) (by omega) _ (lv_sub hl [1, 2, 3, 0] rfl)
set_option maxHeartbeats 4000000 in
set_option maxRecDepth 20000 in
theorem uX13_print (l : Launch) (dC : Nat → ClassId) (dI : Nat → Nat → Nat) (ca : Nat → ClassId) (base : Nat) (B : jF) (hB : jBok B) (hAp : jAp (dC, dI)) (hB15 : ∀ n G a H, B 15 n G a H ↔ jOb (dC, dI) 15 50 (F15 n G) a H) (hB101 : ∀ n G a H, B 101 n G a H ↔ jAr (dC, dI) (ca 1) (fun j z => True) n a H) (hB150 : ∀ n G a H, B 150 n G a H ↔ jAr (dC, dI) (ca 1) (fun j z => True) n a H) (hB151 : ∀ n G a H, B 151 n G a H ↔ jAr (dC, dI) (ca 1) (fun j z => True) n a H) (hB152 : ∀ n G a H, B 152 n G a H ↔ jAr (dC, dI) (ca 1) (fun j z => True) n a H) (hB153 : ∀ n G a H, B 153 n G a H ↔ jAr (dC, dI) (ca 1) (fun j z => True) n a H) (hB154 : ∀ n G a H, B 154 n G a H ↔ jAr (dC, dI) (ca 1) (fun j z => True) n a H) (hB155 : ∀ n G a H, B 155 n G a H ↔ jAr (dC, dI) (ca 1) (fun j z => 0 ≤ z.toInt ∧ z.toInt ≤ 11990) n a H) (hB156 : ∀ n G a H, B 156 n G a H ↔ jAr (dC, dI) (ca 1) (fun j z => 0 ≤ z.toInt ∧ z.toInt ≤ 10) n a H) (hB163 : ∀ n G a H, B 163 n G a H ↔ jAr (dC, dI) (ca 1) (fun j z => 0 ≤ z.toInt ∧ z.toInt ≤ 1599) n a H) (hB164 : ∀ n G a H, B 164 n G a H ↔ jAr (dC, dI) (ca 1) (fun j z => 0 ≤ z.toInt ∧ z.toInt ≤ 100000) n a H) (hB165 : ∀ n G a H, B 165 n G a H ↔ jAr (dC, dI) (ca 1) (fun j z => 0 ≤ z.toInt ∧ z.toInt ≤ 3) n a H) (hB166 : ∀ n G a H, B 166 n G a H ↔ jAr (dC, dI) (ca 1) (fun j z => True) n a H) (d : Nat) (ihS : ∀ e1, e1 < d → qX13_side l dC dI ca base B e1) (ihP : ∀ e1, e1 < d → qX13_print l dC dI ca base B e1) (hQu : qX13_quantified l dC dI ca base B d) (hAl : qX13_applied l dC dI ca base B d) (G0 : jT) (H0 : Heap) (r0 : Nat) (a1 : Int32) (a2 : Int32) (pv : Int32) (zm : Nat) (zs : Nat) (zn : Nat) (za : Nat) (zb : Nat) (zc : Nat) (zy : Nat) (M : Int) (fm : Nat → Int32) (C : jK) : Met l yX13_print (jw yX13_print cX13_print 4 none) ({ frames := 3 * d + 10, cells := 0, slots := 0, locals := 90 * d + 1000 }) (va_Pc [.ref r0, .int a1, .int a2] (fun U => U.heap = H0 ∧ jX B base G0 [] H0 ∧ jG dC dI ca base U ∧ G0 r0 = some (15, 0) ∧ (a2 = 0 ∨ a2 = 1) ∧ G0 zm = some (164, 100) ∧ G0 zs = some (150, 120000) ∧ G0 zn = some (151, 120000) ∧ G0 za = some (152, 120000) ∧ G0 zb = some (153, 120000) ∧ G0 zc = some (154, 120000) ∧ G0 zy = some (165, 16) ∧ jP (dC, dI) G0 H0 [(r0, 15, 49, .int pv), (r0, 15, 48, .ref zm), (r0, 15, 0, .ref zs), (r0, 15, 1, .ref zn), (r0, 15, 2, .ref za), (r0, 15, 3, .ref zb), (r0, 15, 4, .ref zc), (r0, 15, 14, .ref zy)] ∧ jMc (dC, dI) G0 H0 [(zm, 164, 100, ca 1, fm), (zs, 150, 120000, ca 1, C.s), (zn, 151, 120000, ca 1, C.n), (za, 152, 120000, ca 1, C.a), (zb, 153, 120000, ca 1, C.b), (zc, 154, 120000, ca 1, C.c), (zy, 165, 16, ca 1, C.y)] ∧ jFm C 120000 16 d pv.toInt a1.toInt ∧ jMx fm pv.toInt M ∧ 0 ≤ pv.toInt ∧ pv.toInt + d ≤ 99 ∧ 0 ≤ M ∧ M + 11 * d ≤ 90000 ∧ d ≤ 80)) (va_Qv (S := Int32 × (Nat → Int32)) (fun u => u.1.toInt = pv.toInt ∧ jEqK fm u.2 pv.toInt) (fun u t => jRt (dC, dI) B base G0 EX13_print H0 [(r0, 15, 49, .int u.1)] t.heap ∧ jMc (dC, dI) G0 t.heap [(zm, 164, 100, ca 1, u.2)]) (jA base)) 0 0 (jA base) := by
  refine Met.ofW (cc := cX13_print) (maxL := 4) (ret := none) (by decide) rfl ?_
  intro p e s m args below meth c s₁ Bd hml hv
  obtain ⟨rfl, hH0, hX, hG, hg_r0, hz_a2, hg_zm, hg_zs, hg_zn, hg_za, hg_zb, hg_zc, hg_zy, hP0, hM0, hp0, hp1, hp2, hp3, hp4, hp5, hp6⟩ := hv
  have hK := hG.1
  have hx := Bd.exec
  have hb := Bd.bytes
  have hr := Bd.returns
  have hts := atoms_spec (ws := (jw yX13_print cX13_print 4 none)) Bd.pre
  have htw : ∀ w ∈ jWl, w.before _ s = true := fun w h => hts w (List.mem_cons_of_mem _ h)
  have hown : s.vm.findClass RX13 = some m.cls := findClass_of_methodNamed Bd.named
  have hlocks := Bd.notSynchronized
  obtain ⟨Q, hQ⟩ : ∃ Q, Q = MQ below (va_Qv (S := Int32 × (Nat → Int32)) (fun u => u.1.toInt = pv.toInt ∧ jEqK fm u.2 pv.toInt) (fun u t => jRt (dC, dI) B base G0 EX13_print H0 [(r0, 15, 49, .int u.1)] t.heap ∧ jMc (dC, dI) G0 t.heap [(zm, 164, 100, ca 1, u.2)]) (jA base)) ([.ref r0, .int a1, .int a2] : List Value).toArray s 0 0 (jA base) := ⟨_, rfl⟩
  rw [← hQ]
  have hl := lv_entry ([.ref r0, .int a1, .int a2]) (n := 4) (Nat.le_of_ble_eq_true rfl)
  rw [lg_entry_eq]
  generalize (lg_sl ([.ref r0, .int a1, .int a2]) ++ List.replicate (4 - (lg_sl ([.ref r0, .int a1, .int a2])).length) Slot.unset).toArray = ls at hl ⊢
  have hl : lv_has ls 4 [(0, .ref r0), (1, .int a1), (2, .int a2)] := hl
  generalize hR : (headSpec (jw yX13_print cX13_print 4 none) ({ frames := 3 * d + 10, cells := 0, slots := 0, locals := 90 * d + 1000 })).room = R
  subst hH0
  have hh : jSt (dC, dI) B base G0 G0 EX13_print s.heap 0 0 [(r0, 15, 49, .int pv), (r0, 15, 48, .ref zm), (r0, 15, 0, .ref zs), (r0, 15, 1, .ref zn), (r0, 15, 2, .ref za), (r0, 15, 3, .ref zb), (r0, 15, 4, .ref zc), (r0, 15, 14, .ref zy)] [(zm, 164, 100, ca 1, fm), (zs, 150, 120000, ca 1, C.s), (zn, 151, 120000, ca 1, C.n), (za, 152, 120000, ca 1, C.a), (zb, 153, 120000, ca 1, C.b), (zc, 154, 120000, ca 1, C.c), (zy, 165, 16, ca 1, C.y)] [] s.heap [] := jSt.start hX hP0 hM0 jIs.nil
  clear hX hP0
  have hk0 : (0 : Int32).toInt = 0 := by decide
  have hk1 : (1 : Int32).toInt = 1 := by decide
  have hk2 : (2 : Int32).toInt = 2 := by decide
  have hk3 : (3 : Int32).toInt = 3 := by decide
  have hk4 : (4 : Int32).toInt = 4 := by decide
  have hk5 : (5 : Int32).toInt = 5 := by decide
  have hk6 : (6 : Int32).toInt = 6 := by decide
  have hk9 : (9 : Int32).toInt = 9 := by decide
  have hk10 : (10 : Int32).toInt = 10 := by decide
  have hly_15_0 := htw (u_lay RX13 TX13 0) (jWc_wsX130 _ (u_in_lay (by decide)))
  have hly_15_1 := htw (u_lay RX13 TX13 1) (jWc_wsX130 _ (u_in_lay (by decide)))
  have hly_15_2 := htw (u_lay RX13 TX13 2) (jWc_wsX130 _ (u_in_lay (by decide)))
  have hly_15_3 := htw (u_lay RX13 TX13 3) (jWc_wsX130 _ (u_in_lay (by decide)))
  have hly_15_49 := htw (u_lay RX13 TX13 49) (jWc_wsX130 _ (u_in_lay (by decide)))
  have hlk_12 := (htw (.fieldLink RX13 12 "ProofServerModel$Kernel" "sort" "[I") (jWr_14 _ (List.mem_of_getElem? (i := 9) rfl)))
  have hlk_19 := (htw (.fieldLink RX13 19 "ProofServerModel$Kernel" "one" "[I") (jWr_14 _ (List.mem_of_getElem? (i := 11) rfl)))
  obtain ⟨str398, rstr398, hstr3980⟩ := hG.str (o := RX13) (k := 398) (tx := " -> ") (List.mem_of_getElem? (i := 2841) (by decide +kernel))
  have hstr398 : jStr base str398 4 s s.heap := hstr3980
  have hlk_22 := (htw (.fieldLink RX13 22 "ProofServerModel$Kernel" "two" "[I") (jWr_14 _ (List.mem_of_getElem? (i := 12) rfl)))
  obtain ⟨str404, rstr404, hstr4040⟩ := hG.str (o := RX13) (k := 404) (tx := " + ") (List.mem_of_getElem? (i := 2842) (by decide +kernel))
  have hstr404 : jStr base str404 3 s s.heap := hstr4040
  obtain ⟨str406, rstr406, hstr4060⟩ := hG.str (o := RX13) (k := 406) (tx := " * ") (List.mem_of_getElem? (i := 2843) (by decide +kernel))
  have hstr406 : jStr base str406 3 s s.heap := hstr4060
  obtain ⟨str192, rstr192, hstr1920⟩ := hG.str (o := RX13) (k := 192) (tx := "False") (List.mem_of_getElem? (i := 2619) (by decide +kernel))
  have hstr192 : jStr base str192 5 s s.heap := hstr1920
  obtain ⟨str412, rstr412, hstr4120⟩ := hG.str (o := RX13) (k := 412) (tx := " = ") (List.mem_of_getElem? (i := 2844) (by decide +kernel))
  have hstr412 : jStr base str412 3 s s.heap := hstr4120
  have hlk_16 := (htw (.fieldLink RX13 16 "ProofServerModel$Kernel" "name" "[I") (jWr_14 _ (List.mem_of_getElem? (i := 10) rfl)))
  have hlk_388 := (htw (.fieldLink RX13 388 "ProofServerModel$Kernel" "written" "I") (jWr_71 _ (List.mem_of_getElem? (i := 4) rfl)))
  have hrg_a1 := jb_rng a1
  have hrg_a2 := jb_rng a2
  have hnd := hp0.nd
  obtain ⟨g1, g2, g3, g4, g5, g6, g7, g8, g9⟩ := hnd
  have hpos := hp0.pos
  refine lv_aload_n hx hb dX13_print_0 rfl (lv_at hl 0 rfl) ?_
  refine j7_read hx hb hown hK (C := RX13) (T := TX13) (N := 50) rfl hly_15_0 hlk_12 (hh.at 2 rfl) dX13_print_1 ?_
  refine lv_iload_n hx hb dX13_print_4 rfl (lv_at hl 1 rfl) ?_
  refine j7_ialdM hx hb hK hh hB150 1 rfl (by decide) hg_zs (x := a1.toInt) (rfl) (by omega) (j := 1) rfl dX13_print_5 (fun z_1 ez_1 (hz_1 : True) => ?_)
  have hqz_1 : z_1.toInt = jSo C.s (a1.toInt) := by unfold jSo; rw [ez_1]
  refine lv_istore_n (lv' := [(3, .int z_1), (0, .ref r0), (1, .int a1), (2, .int a2)]) hx hb dX13_print_6 rfl hl (by decide) rfl (fun ls hl => ?_)
  refine lv_iload_n hx hb dX13_print_7 rfl (lv_at hl 0 rfl) ?_
  refine lv_if_ne (tgt := 63) hx hb dX13_print_8 (by decide) (fun c_2 => ?_) (fun c_2 => ?_)
  · skip
    have c_2' : z_1.toInt ≠ 0 := jb_ne (rfl) ((by decide)) c_2
    refine lv_iload_n hx hb dX13_print_63 rfl (lv_at hl 0 rfl) ?_
    refine lv_iconst (v := 2) hx hb dX13_print_64 (by decide) ?_
    refine lv_icmp_ne (tgt := 153) hx hb dX13_print_65 (by decide) (fun c_3 => ?_) (fun c_3 => ?_)
    · skip
      have c_3' : z_1.toInt ≠ 2 := jb_ne (rfl) ((by decide)) c_3
      refine lv_iload_n hx hb dX13_print_153 rfl (lv_at hl 0 rfl) ?_
      refine lv_iconst (v := 1) hx hb dX13_print_154 (by decide) ?_
      refine lv_icmp_ne (tgt := 244) hx hb dX13_print_155 (by decide) (fun c_4 => ?_) (fun c_4 => ?_)
      · skip
        have c_4' : z_1.toInt ≠ 1 := jb_ne (rfl) ((by decide)) c_4
        refine lv_iload_n hx hb dX13_print_244 rfl (lv_at hl 0 rfl) ?_
        refine lv_iconst (v := 3) hx hb dX13_print_245 (by decide) ?_
        refine lv_icmp_ne (tgt := 258) hx hb dX13_print_246 (by decide) (fun c_5 => ?_) (fun c_5 => ?_)
        · skip
          have c_5' : z_1.toInt ≠ 3 := jb_ne (rfl) ((by decide)) c_5
          refine lv_iload_n hx hb dX13_print_258 rfl (lv_at hl 0 rfl) ?_
          refine lv_bipush (v := 6) hx hb dX13_print_259 (by decide) ?_
          refine lv_icmp_ne (tgt := 296) hx hb dX13_print_261 (by decide) (fun c_6 => ?_) (fun c_6 => ?_)
          · skip
            have c_6' : z_1.toInt ≠ 6 := jb_ne (rfl) ((by decide)) c_6
            refine lv_iload_n hx hb dX13_print_296 rfl (lv_at hl 0 rfl) ?_
            refine lv_bipush (v := 9) hx hb dX13_print_297 (by decide) ?_
            refine lv_icmp_ne (tgt := 315) hx hb dX13_print_299 (by decide) (fun c_7 => ?_) (fun c_7 => ?_)
            · skip
              have c_7' : z_1.toInt ≠ 9 := jb_ne (rfl) ((by decide)) c_7
              refine lv_iload_n hx hb dX13_print_315 rfl (lv_at hl 0 rfl) ?_
              refine lv_bipush (v := 10) hx hb dX13_print_316 (by decide) ?_
              refine lv_icmp_ne (tgt := 341) hx hb dX13_print_318 (by decide) (fun c_8 => ?_) (fun c_8 => ?_)
              · skip
                have c_8' : z_1.toInt ≠ 10 := jb_ne (rfl) ((by decide)) c_8
                refine lv_iload_n hx hb dX13_print_341 rfl (lv_at hl 0 rfl) ?_
                refine lv_iconst (v := 4) hx hb dX13_print_342 (by decide) ?_
                have C351 : ∀ (H_9 : Heap) (locs_9 : List Loc), jSt (dC, dI) B base G0 G0 EX13_print s.heap 0 0 [(r0, 15, 49, .int pv), (r0, 15, 48, .ref zm), (r0, 15, 0, .ref zs), (r0, 15, 1, .ref zn), (r0, 15, 2, .ref za), (r0, 15, 3, .ref zb), (r0, 15, 4, .ref zc), (r0, 15, 14, .ref zy)] [(zm, 164, 100, ca 1, fm), (zs, 150, 120000, ca 1, C.s), (zn, 151, 120000, ca 1, C.n), (za, 152, 120000, ca 1, C.a), (zb, 153, 120000, ca 1, C.b), (zc, 154, 120000, ca 1, C.c), (zy, 165, 16, ca 1, C.y)] [] H_9 locs_9 → (4 ≤ jSo C.s a1.toInt ∧ jSo C.s a1.toInt ≤ 5) → ∀ ls : Array Slot, lv_has ls 4 [(0, .ref r0), (1, .int a1), (2, .int a2), (3, .int z_1)] → W p l e R s m ([.ref r0, .int a1, .int a2] : List Value).toArray below meth c H_9 locs_9 0 0 Q (F0 m 351 ls []) := by
                  intro  H_9 locs_9 hh_9  hi_9 ls hl
                  obtain ⟨hi_9_0, hi_9_1⟩ := hi_9
                  refine lv_aload_n hx hb dX13_print_351 rfl (lv_at hl 0 rfl) ?_
                  refine lv_iload_n hx hb dX13_print_352 rfl (lv_at hl 1 rfl) ?_
                  refine lv_iload_n hx hb dX13_print_353 rfl (lv_at hl 3 rfl) ?_
                  refine va_callv (A0 := jA base) (H0 := s.heap) (va_runV (As := [.int a1, .int z_1]) (rest := []) ⟨hx, hb, hml, hown, hts⟩ (hQu G0 H_9 r0 a1 z_1 pv zm zs zn za zb zc zy M fm C) (cwV 2 hts (jgV (jWr_71 _ (List.mem_of_getElem? (i := 16) rfl)) (jWr_71 _ (List.mem_of_getElem? (i := 17) rfl)) (jWr_71 _ (List.mem_of_getElem? (i := 18) rfl)) (jWr_12 _ (List.mem_of_getElem? (i := 12) rfl)) (jWr_71 _ (List.mem_of_getElem? (i := 23) rfl))) rfl rfl rfl (by decide +kernel) ⟨by rw [← hR]; show (3 * d + 8) + 1 ≤ 3 * d + 10; omega, by rw [← hR]; show 8 + (4 + 11) + (90 * d + 960) ≤ 90 * d + 1000; omega⟩) ⟨fun a U g mk q => by obtain ⟨q0, q1, q2, qK, q10, q11, q12, q13, q14, q15, q16, q17, q18, q19, q20⟩ := q; exact ⟨q0, q1, q2, jG.calling g mk a qK, q10, q11, q12, q13, q14, q15, q16, q17, q18, q19, q20⟩, hh_9.recv (C := RX13) (T := TX13) (N := 50) hB15 rfl (by decide) hg_r0 hK, fun U hU hW => ⟨rfl, hU, hh_9.2.1, hG.step hW hU hh_9.1, hg_r0, hg_zm, hg_zs, hg_zn, hg_za, hg_zb, hg_zc, hg_zy, (hh_9.2.2.1.sub (L1 := [(r0, 15, 49, .int pv), (r0, 15, 48, .ref zm), (r0, 15, 0, .ref zs), (r0, 15, 1, .ref zn), (r0, 15, 2, .ref za), (r0, 15, 3, .ref zb), (r0, 15, 4, .ref zc), (r0, 15, 14, .ref zy)]) [0, 1, 2, 3, 4, 5, 6, 7] rfl), (hh_9.2.2.2.2.2.2.2.1.sub (L1 := [(zm, 164, 100, ca 1, fm), (zs, 150, 120000, ca 1, C.s), (zn, 151, 120000, ca 1, C.n), (za, 152, 120000, ca 1, C.a), (zb, 153, 120000, ca 1, C.b), (zc, 154, 120000, ca 1, C.c), (zy, 165, 16, ca 1, C.y)]) [0, 1, 2, 3, 4, 5, 6] rfl), ⟨(by first | assumption | exact hp0 | exact hp1 | omega), (by first | assumption | exact hp0 | exact hp1 | omega), (by first | omega | rfl | assumption | exact hp0 | exact hp1), (by first | omega | rfl | assumption | exact hp0 | exact hp1), (by first | omega | rfl | assumption | exact hp0 | exact hp1), (by first | omega | rfl | assumption | exact hp0 | exact hp1), (by first | omega | rfl | assumption | exact hp0 | exact hp1), (by first | omega | rfl | assumption | exact hp0 | exact hp1), (by first | omega | rfl | assumption | exact hp0 | exact hp1)⟩⟩⟩ rfl rfl hl.1 rfl (lv_room (Nat.le_of_ble_eq_true rfl)) dX13_print_354 ⟨Nat.zero_le _, Nat.zero_le _⟩) hh_9.1 (fun q _ h => h) (fun q h => h) (fun u_10 t_10 H_10 locs_10 ht_10 hvm_10 hr_11 hb_10 hz_10 hk_10 hS_10 => ?_)
                  obtain ⟨qv_10, gm_10⟩ := u_10
                  rw [ht_10] at hb_10
                  obtain ⟨⟨hb_101, hb_102, hb_103, hb_104, hb_105⟩, hb_106⟩ := hb_10
                  have hh_10 : jSt (dC, dI) B base G0 G0 EX13_print s.heap 0 0 [(r0, 15, 49, .int qv_10), (r0, 15, 48, .ref zm), (r0, 15, 0, .ref zs), (r0, 15, 1, .ref zn), (r0, 15, 2, .ref za), (r0, 15, 3, .ref zb), (r0, 15, 4, .ref zc), (r0, 15, 14, .ref zy)] [(zm, 164, 100, ca 1, gm_10), (zs, 150, 120000, ca 1, C.s), (zn, 151, 120000, ca 1, C.n), (za, 152, 120000, ca 1, C.a), (zb, 153, 120000, ca 1, C.b), (zc, 154, 120000, ca 1, C.c), (zy, 165, 16, ca 1, C.y)] [] H_10 locs_10 := ((hh_9.call hb_101 hb_102 hb_103 hb_104 hS_10 rfl (L1 := [(r0, 15, 48, .ref zm), (r0, 15, 0, .ref zs), (r0, 15, 1, .ref zn), (r0, 15, 2, .ref za), (r0, 15, 3, .ref zb), (r0, 15, 4, .ref zc), (r0, 15, 14, .ref zy)]) [1, 2, 3, 4, 5, 6, 7] rfl rfl (M1 := [(zs, 150, 120000, ca 1, C.s), (zn, 151, 120000, ca 1, C.n), (za, 152, 120000, ca 1, C.a), (zb, 153, 120000, ca 1, C.b), (zc, 154, 120000, ca 1, C.c), (zy, 165, 16, ca 1, C.y)]) [1, 2, 3, 4, 5, 6] rfl rfl (I1 := []) [] rfl rfl).more hb_105).moreM hb_106
                  clear hh_9 ht_10 hvm_10 hz_10 hk_10 hS_10 hb_101 hb_102 hb_103 hb_104 hb_105
                  clear hb_106
                  try simp only at hr_11
                  obtain ⟨hr_11_0, hr_11_1⟩ := hr_11
                  refine lv_goto (tgt := 365) hx hb dX13_print_357 (by decide) ?_
                  rw [hQ]
                  exact W.vret hx hb hr (fun t ht hW => ⟨⟨(qv_10, gm_10), rfl, by (try dsimp only); exact ⟨by omega, hr_11_1⟩, ⟨hh_10.rt (M1 := [(r0, 15, 49, .int qv_10)]) [0] rfl ht, by rw [ht]; exact hh_10.2.2.2.2.2.2.2.1.sub [0] rfl⟩⟩, by rw [ht]; try exact hh_10.1.1, fun q h9 hq => by rw [ht]; try exact hh_10.1.2.1 q h9 hq⟩) hh_10.1.2.2 dX13_print_365
                refine lv_icmp_eq (tgt := 351) hx hb dX13_print_343 (by decide) (fun c_12 => ?_) (fun c_12 => ?_)
                · skip
                  have c_12' : z_1.toInt = 4 := jb_eq (rfl) ((by decide)) c_12
                  exact C351  _ _ hh (by first | omega | (refine ⟨?_, ?_⟩ <;> (first | omega | rfl | assumption | decide | exact Or.inl rfl | exact Or.inr rfl | (simp only; omega)))) _ (lv_sub hl [1, 2, 3, 0] rfl)
                · skip
                  have c_12' : z_1.toInt ≠ 4 := jb_eq_n (rfl) ((by decide)) c_12
                  refine lv_iload_n hx hb dX13_print_346 rfl (lv_at hl 0 rfl) ?_
                  refine lv_iconst (v := 5) hx hb dX13_print_347 (by decide) ?_
                  refine lv_icmp_ne (tgt := 360) hx hb dX13_print_348 (by decide) (fun c_13 => ?_) (fun c_13 => ?_)
                  · skip
                    have c_13' : z_1.toInt ≠ 5 := jb_ne (rfl) ((by decide)) c_13
                    refine lv_aload_n hx hb dX13_print_360 rfl (lv_at hl 1 rfl) ?_
                    refine lv_iload_n hx hb dX13_print_361 rfl (lv_at hl 2 rfl) ?_
                    refine va_callv (A0 := jA base) (H0 := s.heap) (va_runV (As := [.int a1]) (rest := []) ⟨hx, hb, hml, hown, hts⟩ (hAl G0 s.heap r0 a1 pv zm zs zn za zb zc zy M fm C) (cwV 1 hts (jgV (jWr_71 _ (List.mem_of_getElem? (i := 19) rfl)) (jWr_71 _ (List.mem_of_getElem? (i := 20) rfl)) (jWr_71 _ (List.mem_of_getElem? (i := 21) rfl)) (jWr_12 _ (List.mem_of_getElem? (i := 12) rfl)) (jWr_71 _ (List.mem_of_getElem? (i := 22) rfl))) rfl rfl rfl (by decide +kernel) ⟨by rw [← hR]; show (3 * d + 8) + 1 ≤ 3 * d + 10; omega, by rw [← hR]; show 8 + (4 + 11) + (90 * d + 960) ≤ 90 * d + 1000; omega⟩) ⟨fun a U g mk q => by obtain ⟨q0, q1, q2, qK, q10, q11, q12, q13, q14, q15, q16, q17, q18, q19, q20⟩ := q; exact ⟨q0, q1, q2, jG.calling g mk a qK, q10, q11, q12, q13, q14, q15, q16, q17, q18, q19, q20⟩, hh.recv (C := RX13) (T := TX13) (N := 50) hB15 rfl (by decide) hg_r0 hK, fun U hU hW => ⟨rfl, hU, hh.2.1, hG.step hW hU hh.1, hg_r0, hg_zm, hg_zs, hg_zn, hg_za, hg_zb, hg_zc, hg_zy, (hh.2.2.1.sub (L1 := [(r0, 15, 49, .int pv), (r0, 15, 48, .ref zm), (r0, 15, 0, .ref zs), (r0, 15, 1, .ref zn), (r0, 15, 2, .ref za), (r0, 15, 3, .ref zb), (r0, 15, 4, .ref zc), (r0, 15, 14, .ref zy)]) [0, 1, 2, 3, 4, 5, 6, 7] rfl), (hh.2.2.2.2.2.2.2.1.sub (L1 := [(zm, 164, 100, ca 1, fm), (zs, 150, 120000, ca 1, C.s), (zn, 151, 120000, ca 1, C.n), (za, 152, 120000, ca 1, C.a), (zb, 153, 120000, ca 1, C.b), (zc, 154, 120000, ca 1, C.c), (zy, 165, 16, ca 1, C.y)]) [0, 1, 2, 3, 4, 5, 6] rfl), ⟨(by first | assumption | exact hp0 | exact hp1 | omega), (by first | assumption | exact hp0 | exact hp1 | omega), (by first | omega | rfl | assumption | exact hp0 | exact hp1), (by first | omega | rfl | assumption | exact hp0 | exact hp1), (by first | omega | rfl | assumption | exact hp0 | exact hp1), (by first | omega | rfl | assumption | exact hp0 | exact hp1), (by first | omega | rfl | assumption | exact hp0 | exact hp1), (by first | omega | rfl | assumption | exact hp0 | exact hp1), (by first | omega | rfl | assumption | exact hp0 | exact hp1)⟩⟩⟩ rfl rfl hl.1 rfl (lv_room (Nat.le_of_ble_eq_true rfl)) dX13_print_362 ⟨Nat.zero_le _, Nat.zero_le _⟩) hh.1 (fun q _ h => h) (fun q h => h) (fun u_14 t_14 H_14 locs_14 ht_14 hvm_14 hr_15 hb_14 hz_14 hk_14 hS_14 => ?_)
                    obtain ⟨qv_14, gm_14⟩ := u_14
                    rw [ht_14] at hb_14
                    obtain ⟨⟨hb_141, hb_142, hb_143, hb_144, hb_145⟩, hb_146⟩ := hb_14
                    have hh_14 : jSt (dC, dI) B base G0 G0 EX13_print s.heap 0 0 [(r0, 15, 49, .int qv_14), (r0, 15, 48, .ref zm), (r0, 15, 0, .ref zs), (r0, 15, 1, .ref zn), (r0, 15, 2, .ref za), (r0, 15, 3, .ref zb), (r0, 15, 4, .ref zc), (r0, 15, 14, .ref zy)] [(zm, 164, 100, ca 1, gm_14), (zs, 150, 120000, ca 1, C.s), (zn, 151, 120000, ca 1, C.n), (za, 152, 120000, ca 1, C.a), (zb, 153, 120000, ca 1, C.b), (zc, 154, 120000, ca 1, C.c), (zy, 165, 16, ca 1, C.y)] [] H_14 locs_14 := ((hh.call hb_141 hb_142 hb_143 hb_144 hS_14 rfl (L1 := [(r0, 15, 48, .ref zm), (r0, 15, 0, .ref zs), (r0, 15, 1, .ref zn), (r0, 15, 2, .ref za), (r0, 15, 3, .ref zb), (r0, 15, 4, .ref zc), (r0, 15, 14, .ref zy)]) [1, 2, 3, 4, 5, 6, 7] rfl rfl (M1 := [(zs, 150, 120000, ca 1, C.s), (zn, 151, 120000, ca 1, C.n), (za, 152, 120000, ca 1, C.a), (zb, 153, 120000, ca 1, C.b), (zc, 154, 120000, ca 1, C.c), (zy, 165, 16, ca 1, C.y)]) [1, 2, 3, 4, 5, 6] rfl rfl (I1 := []) [] rfl rfl).more hb_145).moreM hb_146
                    clear hh ht_14 hvm_14 hz_14 hk_14 hS_14 hb_141 hb_142 hb_143 hb_144 hb_145
                    clear hb_146
                    try simp only at hr_15
                    obtain ⟨hr_15_0, hr_15_1⟩ := hr_15
                    rw [hQ]
                    exact W.vret hx hb hr (fun t ht hW => ⟨⟨(qv_14, gm_14), rfl, by (try dsimp only); exact ⟨by omega, hr_15_1⟩, ⟨hh_14.rt (M1 := [(r0, 15, 49, .int qv_14)]) [0] rfl ht, by rw [ht]; exact hh_14.2.2.2.2.2.2.2.1.sub [0] rfl⟩⟩, by rw [ht]; try exact hh_14.1.1, fun q h9 hq => by rw [ht]; try exact hh_14.1.2.1 q h9 hq⟩) hh_14.1.2.2 dX13_print_365
                  · skip
                    have c_13' : z_1.toInt = 5 := jb_ne_n (rfl) ((by decide)) c_13
                    exact C351  _ _ hh (by first | omega | (refine ⟨?_, ?_⟩ <;> (first | omega | rfl | assumption | decide | exact Or.inl rfl | exact Or.inr rfl | (simp only; omega)))) _ (lv_sub hl [1, 2, 3, 0] rfl)
              · skip
                have c_8' : z_1.toInt = 10 := jb_ne_n (rfl) ((by decide)) c_8
                have n6 := g6 (by omega)
                refine lv_aload_n hx hb dX13_print_321 rfl (lv_at hl 1 rfl) ?_
                refine lv_aload_n hx hb dX13_print_322 rfl (lv_at hl 1 rfl) ?_
                refine j7_read hx hb hown hK (C := RX13) (T := TX13) (N := 50) rfl hly_15_49 hlk_388 (hh.at 0 rfl) dX13_print_323 ?_
                refine lv_iconst (v := 1) hx hb dX13_print_326 (by decide) ?_
                refine lv_isub hx hb dX13_print_327 ?_
                refine lv_topi (fun z_16 ez_16 => ?_)
                have hz_16 : z_16.toInt = pv.toInt - 1 := by rw [ez_16]; exact jb_isub2 (rfl) ((by decide)) (by omega)
                refine lv_aload_n hx hb dX13_print_328 rfl (lv_at hl 1 rfl) ?_
                refine j7_read hx hb hown hK (C := RX13) (T := TX13) (N := 50) rfl hly_15_1 hlk_16 (hh.at 3 rfl) dX13_print_329 ?_
                refine lv_iload_n hx hb dX13_print_332 rfl (lv_at hl 2 rfl) ?_
                refine j7_ialdM hx hb hK hh hB151 1 rfl (by decide) hg_zn (x := a1.toInt) (rfl) (by omega) (j := 2) rfl dX13_print_333 (fun z_17 ez_17 (hz_17 : True) => ?_)
                have hqz_17 : z_17.toInt = jSo C.n (a1.toInt) := by unfold jSo; rw [ez_17]
                refine lv_isub hx hb dX13_print_334 ?_
                refine lv_topi (fun z_18 ez_18 => ?_)
                have hz_18 : z_18.toInt = z_16.toInt - z_17.toInt := by rw [ez_18]; exact jb_isub2 (rfl) (rfl) (by omega)
                refine va_callv (A0 := jA base) (H0 := s.heap) (va_runV (As := [.int z_18]) (rest := []) ⟨hx, hb, hml, hown, hts⟩ (uX13_putBound l dC dI ca base B hB hAp hB15 hB101 hB155 hB156 hB163 hB164 hB166 G0 s.heap r0 z_18) (cwV 1 hts (jgV (jWr_71 _ (List.mem_of_getElem? (i := 12) rfl)) (jWr_71 _ (List.mem_of_getElem? (i := 13) rfl)) (jWr_71 _ (List.mem_of_getElem? (i := 14) rfl)) (jWr_12 _ (List.mem_of_getElem? (i := 12) rfl)) (jWr_71 _ (List.mem_of_getElem? (i := 15) rfl))) rfl rfl rfl (by decide +kernel) ⟨by rw [← hR]; show (2) + 1 ≤ 3 * d + 10; omega, by rw [← hR]; show 8 + (3 + 11) + (43) ≤ 90 * d + 1000; omega⟩) ⟨fun a U g mk q => by obtain ⟨q0, q1, q2, qK, q10, q11, q12⟩ := q; exact ⟨q0, q1, q2, jG.calling g mk a qK, q10, q11, q12⟩, hh.recv (C := RX13) (T := TX13) (N := 50) hB15 rfl (by decide) hg_r0 hK, fun U hU hW => ⟨rfl, hU, hh.2.1, hG.step hW hU hh.1, hg_r0, jP.nil, by first | omega | (refine ⟨?_, ?_⟩ <;> (first | omega | rfl | assumption | decide | exact Or.inl rfl | exact Or.inr rfl | (simp only; omega)))⟩⟩ rfl rfl hl.1 rfl (lv_room (Nat.le_of_ble_eq_true rfl)) dX13_print_335 ⟨Nat.zero_le _, Nat.zero_le _⟩) hh.1 (fun q _ h => h) (fun q h => h) (fun u_19 t_19 H_19 locs_19 ht_19 hvm_19 hr_20 hb_19 hz_19 hk_19 hS_19 => ?_)
                rw [ht_19] at hb_19
                obtain ⟨hb_191, hb_192, hb_193, hb_194, hb_195⟩ := hb_19
                have hh_19 : jSt (dC, dI) B base G0 G0 EX13_print s.heap 0 0 [(r0, 15, 49, .int pv), (r0, 15, 48, .ref zm), (r0, 15, 0, .ref zs), (r0, 15, 1, .ref zn), (r0, 15, 2, .ref za), (r0, 15, 3, .ref zb), (r0, 15, 4, .ref zc), (r0, 15, 14, .ref zy)] [(zm, 164, 100, ca 1, fm), (zs, 150, 120000, ca 1, C.s), (zn, 151, 120000, ca 1, C.n), (za, 152, 120000, ca 1, C.a), (zb, 153, 120000, ca 1, C.b), (zc, 154, 120000, ca 1, C.c), (zy, 165, 16, ca 1, C.y)] [] H_19 locs_19 := ((hh.call hb_191 hb_192 hb_193 hb_194 hS_19 rfl (L1 := [(r0, 15, 49, .int pv), (r0, 15, 48, .ref zm), (r0, 15, 0, .ref zs), (r0, 15, 1, .ref zn), (r0, 15, 2, .ref za), (r0, 15, 3, .ref zb), (r0, 15, 4, .ref zc), (r0, 15, 14, .ref zy)]) [0, 1, 2, 3, 4, 5, 6, 7] rfl rfl (M1 := [(zm, 164, 100, ca 1, fm), (zs, 150, 120000, ca 1, C.s), (zn, 151, 120000, ca 1, C.n), (za, 152, 120000, ca 1, C.a), (zb, 153, 120000, ca 1, C.b), (zc, 154, 120000, ca 1, C.c), (zy, 165, 16, ca 1, C.y)]) [0, 1, 2, 3, 4, 5, 6] rfl rfl (I1 := []) [] rfl rfl).more hb_195)
                clear hh ht_19 hvm_19 hz_19 hk_19 hS_19 hb_191 hb_192 hb_193 hb_194 hb_195
                refine lv_goto (tgt := 365) hx hb dX13_print_338 (by decide) ?_
                rw [hQ]
                exact W.vret hx hb hr (fun t ht hW => ⟨⟨(pv, fm), rfl, by (try dsimp only); exact ⟨by omega, jEqK.rf _ _⟩, ⟨hh_19.rt (M1 := [(r0, 15, 49, .int pv)]) [0] rfl ht, by rw [ht]; exact hh_19.2.2.2.2.2.2.2.1.sub [0] rfl⟩⟩, by rw [ht]; try exact hh_19.1.1, fun q h9 hq => by rw [ht]; try exact hh_19.1.2.1 q h9 hq⟩) hh_19.1.2.2 dX13_print_365
            · skip
              have c_7' : z_1.toInt = 9 := jb_ne_n (rfl) ((by decide)) c_7
              have n7 := g7 (by omega)
              refine lv_aload_n hx hb dX13_print_302 rfl (lv_at hl 1 rfl) ?_
              refine lv_aload_n hx hb dX13_print_303 rfl (lv_at hl 1 rfl) ?_
              refine j7_read hx hb hown hK (C := RX13) (T := TX13) (N := 50) rfl hly_15_1 hlk_16 (hh.at 3 rfl) dX13_print_304 ?_
              refine lv_iload_n hx hb dX13_print_307 rfl (lv_at hl 2 rfl) ?_
              refine j7_ialdM hx hb hK hh hB151 1 rfl (by decide) hg_zn (x := a1.toInt) (rfl) (by omega) (j := 2) rfl dX13_print_308 (fun z_21 ez_21 (hz_21 : True) => ?_)
              have hqz_21 : z_21.toInt = jSo C.n (a1.toInt) := by unfold jSo; rw [ez_21]
              refine va_callv (A0 := jA base) (H0 := s.heap) (va_runV (As := [.int z_21]) (rest := []) ⟨hx, hb, hml, hown, hts⟩ (uX13_putName l dC dI ca base B hB hAp hB15 hB101 hB155 hB156 hB166 G0 s.heap r0 z_21) (cwV 1 hts (jgV (jWr_70 _ (List.mem_of_getElem? (i := 19) rfl)) (jWr_70 _ (List.mem_of_getElem? (i := 3) rfl)) (jWr_70 _ (List.mem_of_getElem? (i := 4) rfl)) (jWr_12 _ (List.mem_of_getElem? (i := 12) rfl)) (jWr_70 _ (List.mem_of_getElem? (i := 5) rfl))) rfl rfl rfl (by decide +kernel) ⟨by rw [← hR]; show (1) + 1 ≤ 3 * d + 10; omega, by rw [← hR]; show 8 + (3 + 11) + (21) ≤ 90 * d + 1000; omega⟩) ⟨fun a U g mk q => by obtain ⟨q0, q1, q2, qK, q10, q11, q12⟩ := q; exact ⟨q0, q1, q2, jG.calling g mk a qK, q10, q11, q12⟩, hh.recv (C := RX13) (T := TX13) (N := 50) hB15 rfl (by decide) hg_r0 hK, fun U hU hW => ⟨rfl, hU, hh.2.1, hG.step hW hU hh.1, hg_r0, jP.nil, by first | omega | (refine ⟨?_, ?_⟩ <;> (first | omega | rfl | assumption | decide | exact Or.inl rfl | exact Or.inr rfl | (simp only; omega)))⟩⟩ rfl rfl hl.1 rfl (lv_room (Nat.le_of_ble_eq_true rfl)) dX13_print_309 ⟨Nat.zero_le _, Nat.zero_le _⟩) hh.1 (fun q _ h => h) (fun q h => h) (fun u_22 t_22 H_22 locs_22 ht_22 hvm_22 hr_23 hb_22 hz_22 hk_22 hS_22 => ?_)
              rw [ht_22] at hb_22
              obtain ⟨hb_221, hb_222, hb_223, hb_224, hb_225⟩ := hb_22
              have hh_22 : jSt (dC, dI) B base G0 G0 EX13_print s.heap 0 0 [(r0, 15, 49, .int pv), (r0, 15, 48, .ref zm), (r0, 15, 0, .ref zs), (r0, 15, 1, .ref zn), (r0, 15, 2, .ref za), (r0, 15, 3, .ref zb), (r0, 15, 4, .ref zc), (r0, 15, 14, .ref zy)] [(zm, 164, 100, ca 1, fm), (zs, 150, 120000, ca 1, C.s), (zn, 151, 120000, ca 1, C.n), (za, 152, 120000, ca 1, C.a), (zb, 153, 120000, ca 1, C.b), (zc, 154, 120000, ca 1, C.c), (zy, 165, 16, ca 1, C.y)] [] H_22 locs_22 := ((hh.call hb_221 hb_222 hb_223 hb_224 hS_22 rfl (L1 := [(r0, 15, 49, .int pv), (r0, 15, 48, .ref zm), (r0, 15, 0, .ref zs), (r0, 15, 1, .ref zn), (r0, 15, 2, .ref za), (r0, 15, 3, .ref zb), (r0, 15, 4, .ref zc), (r0, 15, 14, .ref zy)]) [0, 1, 2, 3, 4, 5, 6, 7] rfl rfl (M1 := [(zm, 164, 100, ca 1, fm), (zs, 150, 120000, ca 1, C.s), (zn, 151, 120000, ca 1, C.n), (za, 152, 120000, ca 1, C.a), (zb, 153, 120000, ca 1, C.b), (zc, 154, 120000, ca 1, C.c), (zy, 165, 16, ca 1, C.y)]) [0, 1, 2, 3, 4, 5, 6] rfl rfl (I1 := []) [] rfl rfl).more hb_225)
              clear hh ht_22 hvm_22 hz_22 hk_22 hS_22 hb_221 hb_222 hb_223 hb_224 hb_225
              refine lv_goto (tgt := 365) hx hb dX13_print_312 (by decide) ?_
              rw [hQ]
              exact W.vret hx hb hr (fun t ht hW => ⟨⟨(pv, fm), rfl, by (try dsimp only); exact ⟨by omega, jEqK.rf _ _⟩, ⟨hh_22.rt (M1 := [(r0, 15, 49, .int pv)]) [0] rfl ht, by rw [ht]; exact hh_22.2.2.2.2.2.2.2.1.sub [0] rfl⟩⟩, by rw [ht]; try exact hh_22.1.1, fun q h9 hq => by rw [ht]; try exact hh_22.1.2.1 q h9 hq⟩) hh_22.1.2.2 dX13_print_365
          · skip
            have c_6' : z_1.toInt = 6 := jb_ne_n (rfl) ((by decide)) c_6
            have h2 := hp0.two (by omega)
            have h2a := h2.2.2.1
            have h2b := h2.2.2.2
            refine lv_aload_n hx hb dX13_print_264 rfl (lv_at hl 1 rfl) ?_
            refine lv_aload_n hx hb dX13_print_265 rfl (lv_at hl 1 rfl) ?_
            refine j7_read hx hb hown hK (C := RX13) (T := TX13) (N := 50) rfl hly_15_2 hlk_19 (hh.at 4 rfl) dX13_print_266 ?_
            refine lv_iload_n hx hb dX13_print_269 rfl (lv_at hl 2 rfl) ?_
            refine j7_ialdM hx hb hK hh hB152 1 rfl (by decide) hg_za (x := a1.toInt) (rfl) (by omega) (j := 3) rfl dX13_print_270 (fun z_24 ez_24 (hz_24 : True) => ?_)
            have hqz_24 : z_24.toInt = jSo C.a (a1.toInt) := by unfold jSo; rw [ez_24]
            refine lv_iconst (v := 0) hx hb dX13_print_271 (by decide) ?_
            refine va_callv (A0 := jA base) (H0 := s.heap) (va_runV (As := [.int z_24, .int 0]) (rest := []) ⟨hx, hb, hml, hown, hts⟩ (ihP (d - 1) (by omega) G0 s.heap r0 z_24 0 pv zm zs zn za zb zc zy M fm C) (cwV 2 hts (jgV (jWr_71 _ (List.mem_of_getElem? (i := 5) rfl)) (jWr_71 _ (List.mem_of_getElem? (i := 6) rfl)) (jWr_71 _ (List.mem_of_getElem? (i := 7) rfl)) (jWr_12 _ (List.mem_of_getElem? (i := 12) rfl)) (jWr_71 _ (List.mem_of_getElem? (i := 8) rfl))) rfl rfl rfl (by decide +kernel) ⟨by rw [← hR]; show (3 * (d - 1) + 10) + 1 ≤ 3 * d + 10; omega, by rw [← hR]; show 8 + (4 + 11) + (90 * (d - 1) + 1000) ≤ 90 * d + 1000; omega⟩) ⟨fun a U g mk q => by obtain ⟨q0, q1, q2, qK, q10, q11, q12, q13, q14, q15, q16, q17, q18, q19, q20, q21⟩ := q; exact ⟨q0, q1, q2, jG.calling g mk a qK, q10, q11, q12, q13, q14, q15, q16, q17, q18, q19, q20, q21⟩, hh.recv (C := RX13) (T := TX13) (N := 50) hB15 rfl (by decide) hg_r0 hK, fun U hU hW => ⟨rfl, hU, hh.2.1, hG.step hW hU hh.1, hg_r0, (Or.inl rfl), hg_zm, hg_zs, hg_zn, hg_za, hg_zb, hg_zc, hg_zy, (hh.2.2.1.sub (L1 := [(r0, 15, 49, .int pv), (r0, 15, 48, .ref zm), (r0, 15, 0, .ref zs), (r0, 15, 1, .ref zn), (r0, 15, 2, .ref za), (r0, 15, 3, .ref zb), (r0, 15, 4, .ref zc), (r0, 15, 14, .ref zy)]) [0, 1, 2, 3, 4, 5, 6, 7] rfl), (hh.2.2.2.2.2.2.2.1.sub (L1 := [(zm, 164, 100, ca 1, fm), (zs, 150, 120000, ca 1, C.s), (zn, 151, 120000, ca 1, C.n), (za, 152, 120000, ca 1, C.a), (zb, 153, 120000, ca 1, C.b), (zc, 154, 120000, ca 1, C.c), (zy, 165, 16, ca 1, C.y)]) [0, 1, 2, 3, 4, 5, 6] rfl), ⟨(by first | assumption | (rw [hqz_24]; exact h2.1) | exact hp1 | omega), (by first | assumption | (rw [hqz_24]; exact h2.1) | exact hp1 | omega), (by first | omega | rfl | assumption | (rw [hqz_24]; exact h2.1) | exact hp1), (by first | omega | rfl | assumption | (rw [hqz_24]; exact h2.1) | exact hp1), (by first | omega | rfl | assumption | (rw [hqz_24]; exact h2.1) | exact hp1), (by first | omega | rfl | assumption | (rw [hqz_24]; exact h2.1) | exact hp1), (by first | omega | rfl | assumption | (rw [hqz_24]; exact h2.1) | exact hp1)⟩⟩⟩ rfl rfl hl.1 rfl (lv_room (Nat.le_of_ble_eq_true rfl)) dX13_print_272 ⟨Nat.zero_le _, Nat.zero_le _⟩) hh.1 (fun q _ h => h) (fun q h => h) (fun u_25 t_25 H_25 locs_25 ht_25 hvm_25 hr_26 hb_25 hz_25 hk_25 hS_25 => ?_)
            obtain ⟨qv_25, gm_25⟩ := u_25
            rw [ht_25] at hb_25
            obtain ⟨⟨hb_251, hb_252, hb_253, hb_254, hb_255⟩, hb_256⟩ := hb_25
            have hh_25 : jSt (dC, dI) B base G0 G0 EX13_print s.heap 0 0 [(r0, 15, 49, .int qv_25), (r0, 15, 48, .ref zm), (r0, 15, 0, .ref zs), (r0, 15, 1, .ref zn), (r0, 15, 2, .ref za), (r0, 15, 3, .ref zb), (r0, 15, 4, .ref zc), (r0, 15, 14, .ref zy)] [(zm, 164, 100, ca 1, gm_25), (zs, 150, 120000, ca 1, C.s), (zn, 151, 120000, ca 1, C.n), (za, 152, 120000, ca 1, C.a), (zb, 153, 120000, ca 1, C.b), (zc, 154, 120000, ca 1, C.c), (zy, 165, 16, ca 1, C.y)] [] H_25 locs_25 := ((hh.call hb_251 hb_252 hb_253 hb_254 hS_25 rfl (L1 := [(r0, 15, 48, .ref zm), (r0, 15, 0, .ref zs), (r0, 15, 1, .ref zn), (r0, 15, 2, .ref za), (r0, 15, 3, .ref zb), (r0, 15, 4, .ref zc), (r0, 15, 14, .ref zy)]) [1, 2, 3, 4, 5, 6, 7] rfl rfl (M1 := [(zs, 150, 120000, ca 1, C.s), (zn, 151, 120000, ca 1, C.n), (za, 152, 120000, ca 1, C.a), (zb, 153, 120000, ca 1, C.b), (zc, 154, 120000, ca 1, C.c), (zy, 165, 16, ca 1, C.y)]) [1, 2, 3, 4, 5, 6] rfl rfl (I1 := []) [] rfl rfl).more hb_255).moreM hb_256
            clear hh ht_25 hvm_25 hz_25 hk_25 hS_25 hb_251 hb_252 hb_253 hb_254 hb_255
            clear hb_256
            try simp only at hr_26
            obtain ⟨hr_26_0, hr_26_1⟩ := hr_26
            refine lv_aload_n hx hb dX13_print_275 rfl (lv_at hl 1 rfl) ?_
            refine j_ldcSw hx hb hown rstr412 dX13_print_276 ?_
            refine va_callv (A0 := jA base) (H0 := s.heap) (va_runV (As := [.ref str412]) (rest := []) ⟨hx, hb, hml, hown, hts⟩ (uX13_words l dC dI ca base B hB hAp hB15 hB101 G0 H_25 r0 str412 3) (cwV 1 hts (jgV (jWr_70 _ (List.mem_of_getElem? (i := 20) rfl)) (jWr_70 _ (List.mem_of_getElem? (i := 21) rfl)) (jWr_70 _ (List.mem_of_getElem? (i := 22) rfl)) (jWr_12 _ (List.mem_of_getElem? (i := 12) rfl)) (jWr_70 _ (List.mem_of_getElem? (i := 23) rfl))) rfl rfl rfl (by decide +kernel) ⟨by rw [← hR]; show (4) + 1 ≤ 3 * d + 10; omega, by rw [← hR]; show 8 + (3 + 11) + (141) ≤ 90 * d + 1000; omega⟩) ⟨fun a U g mk q => by obtain ⟨q0, q1, q2, qK, q10, q11, q12, q13⟩ := q; exact ⟨q0, q1, q2, jG.calling g mk a qK, (q10.moved (Vm.Alike.refl U.vm)), q11, q12, q13⟩, hh_25.recv (C := RX13) (T := TX13) (N := 50) hB15 rfl (by decide) hg_r0 hK, fun U hU hW => ⟨rfl, hU, hh_25.2.1, hG.step hW hU hh_25.1, (hstr412.moved hW.alike).kept hh_25.1.2.1, hg_r0, jP.nil, by first | omega | rfl | assumption | decide | exact Or.inl rfl | exact Or.inr rfl | (simp only; omega)⟩⟩ rfl rfl hl.1 rfl (lv_room (Nat.le_of_ble_eq_true rfl)) dX13_print_279 ⟨Nat.zero_le _, Nat.zero_le _⟩) hh_25.1 (fun q _ h => h) (fun q h => h) (fun u_27 t_27 H_27 locs_27 ht_27 hvm_27 hr_28 hb_27 hz_27 hk_27 hS_27 => ?_)
            rw [ht_27] at hb_27
            obtain ⟨hb_271, hb_272, hb_273, hb_274, hb_275⟩ := hb_27
            have hh_27 : jSt (dC, dI) B base G0 G0 EX13_print s.heap 0 0 [(r0, 15, 49, .int qv_25), (r0, 15, 48, .ref zm), (r0, 15, 0, .ref zs), (r0, 15, 1, .ref zn), (r0, 15, 2, .ref za), (r0, 15, 3, .ref zb), (r0, 15, 4, .ref zc), (r0, 15, 14, .ref zy)] [(zm, 164, 100, ca 1, gm_25), (zs, 150, 120000, ca 1, C.s), (zn, 151, 120000, ca 1, C.n), (za, 152, 120000, ca 1, C.a), (zb, 153, 120000, ca 1, C.b), (zc, 154, 120000, ca 1, C.c), (zy, 165, 16, ca 1, C.y)] [] H_27 locs_27 := ((hh_25.call hb_271 hb_272 hb_273 hb_274 hS_27 rfl (L1 := [(r0, 15, 49, .int qv_25), (r0, 15, 48, .ref zm), (r0, 15, 0, .ref zs), (r0, 15, 1, .ref zn), (r0, 15, 2, .ref za), (r0, 15, 3, .ref zb), (r0, 15, 4, .ref zc), (r0, 15, 14, .ref zy)]) [0, 1, 2, 3, 4, 5, 6, 7] rfl rfl (M1 := [(zm, 164, 100, ca 1, gm_25), (zs, 150, 120000, ca 1, C.s), (zn, 151, 120000, ca 1, C.n), (za, 152, 120000, ca 1, C.a), (zb, 153, 120000, ca 1, C.b), (zc, 154, 120000, ca 1, C.c), (zy, 165, 16, ca 1, C.y)]) [0, 1, 2, 3, 4, 5, 6] rfl rfl (I1 := []) [] rfl rfl).more hb_275)
            clear hh_25 ht_27 hvm_27 hz_27 hk_27 hS_27 hb_271 hb_272 hb_273 hb_274 hb_275
            refine lv_aload_n hx hb dX13_print_282 rfl (lv_at hl 1 rfl) ?_
            refine lv_aload_n hx hb dX13_print_283 rfl (lv_at hl 1 rfl) ?_
            refine j7_read hx hb hown hK (C := RX13) (T := TX13) (N := 50) rfl hly_15_3 hlk_22 (hh_27.at 5 rfl) dX13_print_284 ?_
            refine lv_iload_n hx hb dX13_print_287 rfl (lv_at hl 2 rfl) ?_
            refine j7_ialdM hx hb hK hh_27 hB153 1 rfl (by decide) hg_zb (x := a1.toInt) (rfl) (by omega) (j := 4) rfl dX13_print_288 (fun z_29 ez_29 (hz_29 : True) => ?_)
            have hqz_29 : z_29.toInt = jSo C.b (a1.toInt) := by unfold jSo; rw [ez_29]
            refine lv_iconst (v := 0) hx hb dX13_print_289 (by decide) ?_
            refine va_callv (A0 := jA base) (H0 := s.heap) (va_runV (As := [.int z_29, .int 0]) (rest := []) ⟨hx, hb, hml, hown, hts⟩ (ihP (d - 1) (by omega) G0 H_27 r0 z_29 0 qv_25 zm zs zn za zb zc zy M gm_25 C) (cwV 2 hts (jgV (jWr_71 _ (List.mem_of_getElem? (i := 5) rfl)) (jWr_71 _ (List.mem_of_getElem? (i := 6) rfl)) (jWr_71 _ (List.mem_of_getElem? (i := 7) rfl)) (jWr_12 _ (List.mem_of_getElem? (i := 12) rfl)) (jWr_71 _ (List.mem_of_getElem? (i := 8) rfl))) rfl rfl rfl (by decide +kernel) ⟨by rw [← hR]; show (3 * (d - 1) + 10) + 1 ≤ 3 * d + 10; omega, by rw [← hR]; show 8 + (4 + 11) + (90 * (d - 1) + 1000) ≤ 90 * d + 1000; omega⟩) ⟨fun a U g mk q => by obtain ⟨q0, q1, q2, qK, q10, q11, q12, q13, q14, q15, q16, q17, q18, q19, q20, q21⟩ := q; exact ⟨q0, q1, q2, jG.calling g mk a qK, q10, q11, q12, q13, q14, q15, q16, q17, q18, q19, q20, q21⟩, hh_27.recv (C := RX13) (T := TX13) (N := 50) hB15 rfl (by decide) hg_r0 hK, fun U hU hW => ⟨rfl, hU, hh_27.2.1, hG.step hW hU hh_27.1, hg_r0, (Or.inl rfl), hg_zm, hg_zs, hg_zn, hg_za, hg_zb, hg_zc, hg_zy, (hh_27.2.2.1.sub (L1 := [(r0, 15, 49, .int qv_25), (r0, 15, 48, .ref zm), (r0, 15, 0, .ref zs), (r0, 15, 1, .ref zn), (r0, 15, 2, .ref za), (r0, 15, 3, .ref zb), (r0, 15, 4, .ref zc), (r0, 15, 14, .ref zy)]) [0, 1, 2, 3, 4, 5, 6, 7] rfl), (hh_27.2.2.2.2.2.2.2.1.sub (L1 := [(zm, 164, 100, ca 1, gm_25), (zs, 150, 120000, ca 1, C.s), (zn, 151, 120000, ca 1, C.n), (za, 152, 120000, ca 1, C.a), (zb, 153, 120000, ca 1, C.b), (zc, 154, 120000, ca 1, C.c), (zy, 165, 16, ca 1, C.y)]) [0, 1, 2, 3, 4, 5, 6] rfl), ⟨(by first | assumption | (rw [hr_26_0, hqz_29]; exact h2.2.1) | (rw [hr_26_0]; exact hp1.eq hr_26_1) | omega), (by first | assumption | (rw [hr_26_0, hqz_29]; exact h2.2.1) | (rw [hr_26_0]; exact hp1.eq hr_26_1) | omega), (by first | omega | rfl | assumption | (rw [hr_26_0, hqz_29]; exact h2.2.1) | (rw [hr_26_0]; exact hp1.eq hr_26_1)), (by first | omega | rfl | assumption | (rw [hr_26_0, hqz_29]; exact h2.2.1) | (rw [hr_26_0]; exact hp1.eq hr_26_1)), (by first | omega | rfl | assumption | (rw [hr_26_0, hqz_29]; exact h2.2.1) | (rw [hr_26_0]; exact hp1.eq hr_26_1)), (by first | omega | rfl | assumption | (rw [hr_26_0, hqz_29]; exact h2.2.1) | (rw [hr_26_0]; exact hp1.eq hr_26_1)), (by first | omega | rfl | assumption | (rw [hr_26_0, hqz_29]; exact h2.2.1) | (rw [hr_26_0]; exact hp1.eq hr_26_1))⟩⟩⟩ rfl rfl hl.1 rfl (lv_room (Nat.le_of_ble_eq_true rfl)) dX13_print_290 ⟨Nat.zero_le _, Nat.zero_le _⟩) hh_27.1 (fun q _ h => h) (fun q h => h) (fun u_30 t_30 H_30 locs_30 ht_30 hvm_30 hr_31 hb_30 hz_30 hk_30 hS_30 => ?_)
            obtain ⟨qv_30, gm_30⟩ := u_30
            rw [ht_30] at hb_30
            obtain ⟨⟨hb_301, hb_302, hb_303, hb_304, hb_305⟩, hb_306⟩ := hb_30
            have hh_30 : jSt (dC, dI) B base G0 G0 EX13_print s.heap 0 0 [(r0, 15, 49, .int qv_30), (r0, 15, 48, .ref zm), (r0, 15, 0, .ref zs), (r0, 15, 1, .ref zn), (r0, 15, 2, .ref za), (r0, 15, 3, .ref zb), (r0, 15, 4, .ref zc), (r0, 15, 14, .ref zy)] [(zm, 164, 100, ca 1, gm_30), (zs, 150, 120000, ca 1, C.s), (zn, 151, 120000, ca 1, C.n), (za, 152, 120000, ca 1, C.a), (zb, 153, 120000, ca 1, C.b), (zc, 154, 120000, ca 1, C.c), (zy, 165, 16, ca 1, C.y)] [] H_30 locs_30 := ((hh_27.call hb_301 hb_302 hb_303 hb_304 hS_30 rfl (L1 := [(r0, 15, 48, .ref zm), (r0, 15, 0, .ref zs), (r0, 15, 1, .ref zn), (r0, 15, 2, .ref za), (r0, 15, 3, .ref zb), (r0, 15, 4, .ref zc), (r0, 15, 14, .ref zy)]) [1, 2, 3, 4, 5, 6, 7] rfl rfl (M1 := [(zs, 150, 120000, ca 1, C.s), (zn, 151, 120000, ca 1, C.n), (za, 152, 120000, ca 1, C.a), (zb, 153, 120000, ca 1, C.b), (zc, 154, 120000, ca 1, C.c), (zy, 165, 16, ca 1, C.y)]) [1, 2, 3, 4, 5, 6] rfl rfl (I1 := []) [] rfl rfl).more hb_305).moreM hb_306
            clear hh_27 ht_30 hvm_30 hz_30 hk_30 hS_30 hb_301 hb_302 hb_303 hb_304 hb_305
            clear hb_306
            try simp only at hr_31
            obtain ⟨hr_31_0, hr_31_1⟩ := hr_31
            refine lv_goto (tgt := 365) hx hb dX13_print_293 (by decide) ?_
            rw [hQ]
            exact W.vret hx hb hr (fun t ht hW => ⟨⟨(qv_30, gm_30), rfl, by (try dsimp only); refine ⟨by omega, ?_⟩; have h8 := hr_31_1; rw [hr_26_0] at h8; exact hr_26_1.tr h8, ⟨hh_30.rt (M1 := [(r0, 15, 49, .int qv_30)]) [0] rfl ht, by rw [ht]; exact hh_30.2.2.2.2.2.2.2.1.sub [0] rfl⟩⟩, by rw [ht]; try exact hh_30.1.1, fun q h9 hq => by rw [ht]; try exact hh_30.1.2.1 q h9 hq⟩) hh_30.1.2.2 dX13_print_365
        · skip
          have c_5' : z_1.toInt = 3 := jb_ne_n (rfl) ((by decide)) c_5
          refine lv_aload_n hx hb dX13_print_249 rfl (lv_at hl 1 rfl) ?_
          refine va_ldcS hx hb hown rstr192 dX13_print_250 ?_
          refine va_callv (A0 := jA base) (H0 := s.heap) (va_runV (As := [.ref str192]) (rest := []) ⟨hx, hb, hml, hown, hts⟩ (uX13_words l dC dI ca base B hB hAp hB15 hB101 G0 s.heap r0 str192 5) (cwV 1 hts (jgV (jWr_70 _ (List.mem_of_getElem? (i := 20) rfl)) (jWr_70 _ (List.mem_of_getElem? (i := 21) rfl)) (jWr_70 _ (List.mem_of_getElem? (i := 22) rfl)) (jWr_12 _ (List.mem_of_getElem? (i := 12) rfl)) (jWr_70 _ (List.mem_of_getElem? (i := 23) rfl))) rfl rfl rfl (by decide +kernel) ⟨by rw [← hR]; show (4) + 1 ≤ 3 * d + 10; omega, by rw [← hR]; show 8 + (3 + 11) + (141) ≤ 90 * d + 1000; omega⟩) ⟨fun a U g mk q => by obtain ⟨q0, q1, q2, qK, q10, q11, q12, q13⟩ := q; exact ⟨q0, q1, q2, jG.calling g mk a qK, (q10.moved (Vm.Alike.refl U.vm)), q11, q12, q13⟩, hh.recv (C := RX13) (T := TX13) (N := 50) hB15 rfl (by decide) hg_r0 hK, fun U hU hW => ⟨rfl, hU, hh.2.1, hG.step hW hU hh.1, (hstr192.moved hW.alike).kept hh.1.2.1, hg_r0, jP.nil, by first | omega | rfl | assumption | decide | exact Or.inl rfl | exact Or.inr rfl | (simp only; omega)⟩⟩ rfl rfl hl.1 rfl (lv_room (Nat.le_of_ble_eq_true rfl)) dX13_print_252 ⟨Nat.zero_le _, Nat.zero_le _⟩) hh.1 (fun q _ h => h) (fun q h => h) (fun u_32 t_32 H_32 locs_32 ht_32 hvm_32 hr_33 hb_32 hz_32 hk_32 hS_32 => ?_)
          rw [ht_32] at hb_32
          obtain ⟨hb_321, hb_322, hb_323, hb_324, hb_325⟩ := hb_32
          have hh_32 : jSt (dC, dI) B base G0 G0 EX13_print s.heap 0 0 [(r0, 15, 49, .int pv), (r0, 15, 48, .ref zm), (r0, 15, 0, .ref zs), (r0, 15, 1, .ref zn), (r0, 15, 2, .ref za), (r0, 15, 3, .ref zb), (r0, 15, 4, .ref zc), (r0, 15, 14, .ref zy)] [(zm, 164, 100, ca 1, fm), (zs, 150, 120000, ca 1, C.s), (zn, 151, 120000, ca 1, C.n), (za, 152, 120000, ca 1, C.a), (zb, 153, 120000, ca 1, C.b), (zc, 154, 120000, ca 1, C.c), (zy, 165, 16, ca 1, C.y)] [] H_32 locs_32 := ((hh.call hb_321 hb_322 hb_323 hb_324 hS_32 rfl (L1 := [(r0, 15, 49, .int pv), (r0, 15, 48, .ref zm), (r0, 15, 0, .ref zs), (r0, 15, 1, .ref zn), (r0, 15, 2, .ref za), (r0, 15, 3, .ref zb), (r0, 15, 4, .ref zc), (r0, 15, 14, .ref zy)]) [0, 1, 2, 3, 4, 5, 6, 7] rfl rfl (M1 := [(zm, 164, 100, ca 1, fm), (zs, 150, 120000, ca 1, C.s), (zn, 151, 120000, ca 1, C.n), (za, 152, 120000, ca 1, C.a), (zb, 153, 120000, ca 1, C.b), (zc, 154, 120000, ca 1, C.c), (zy, 165, 16, ca 1, C.y)]) [0, 1, 2, 3, 4, 5, 6] rfl rfl (I1 := []) [] rfl rfl).more hb_325)
          clear hh ht_32 hvm_32 hz_32 hk_32 hS_32 hb_321 hb_322 hb_323 hb_324 hb_325
          refine lv_goto (tgt := 365) hx hb dX13_print_255 (by decide) ?_
          rw [hQ]
          exact W.vret hx hb hr (fun t ht hW => ⟨⟨(pv, fm), rfl, by (try dsimp only); exact ⟨by omega, jEqK.rf _ _⟩, ⟨hh_32.rt (M1 := [(r0, 15, 49, .int pv)]) [0] rfl ht, by rw [ht]; exact hh_32.2.2.2.2.2.2.2.1.sub [0] rfl⟩⟩, by rw [ht]; try exact hh_32.1.1, fun q h9 hq => by rw [ht]; try exact hh_32.1.2.1 q h9 hq⟩) hh_32.1.2.2 dX13_print_365
      · skip
        have c_4' : z_1.toInt = 1 := jb_ne_n (rfl) ((by decide)) c_4
        have h2 := hp0.two (by omega)
        have h2a := h2.2.2.1
        have h2b := h2.2.2.2
        refine lv_aload_n hx hb dX13_print_158 rfl (lv_at hl 1 rfl) ?_
        refine lv_aload_n hx hb dX13_print_159 rfl (lv_at hl 1 rfl) ?_
        refine j7_read hx hb hown hK (C := RX13) (T := TX13) (N := 50) rfl hly_15_2 hlk_19 (hh.at 4 rfl) dX13_print_160 ?_
        refine lv_iload_n hx hb dX13_print_163 rfl (lv_at hl 2 rfl) ?_
        refine j7_ialdM hx hb hK hh hB152 1 rfl (by decide) hg_za (x := a1.toInt) (rfl) (by omega) (j := 3) rfl dX13_print_164 (fun z_34 ez_34 (hz_34 : True) => ?_)
        have hqz_34 : z_34.toInt = jSo C.a (a1.toInt) := by unfold jSo; rw [ez_34]
        refine lv_aload_n hx hb dX13_print_165 rfl (lv_at hl 1 rfl) ?_
        refine j7_read hx hb hown hK (C := RX13) (T := TX13) (N := 50) rfl hly_15_0 hlk_12 (hh.at 2 rfl) dX13_print_166 ?_
        refine lv_aload_n hx hb dX13_print_169 rfl (lv_at hl 1 rfl) ?_
        refine j7_read hx hb hown hK (C := RX13) (T := TX13) (N := 50) rfl hly_15_2 hlk_19 (hh.at 4 rfl) dX13_print_170 ?_
        refine lv_iload_n hx hb dX13_print_173 rfl (lv_at hl 2 rfl) ?_
        refine j7_ialdM hx hb hK hh hB152 1 rfl (by decide) hg_za (x := a1.toInt) (rfl) (by omega) (j := 3) rfl dX13_print_174 (fun z_35 ez_35 (hz_35 : True) => ?_)
        have hqz_35 : z_35.toInt = jSo C.a (a1.toInt) := by unfold jSo; rw [ez_35]
        refine j7_ialdM hx hb hK hh hB150 1 rfl (by decide) hg_zs (x := z_35.toInt) (rfl) (by omega) (j := 1) rfl dX13_print_175 (fun z_36 ez_36 (hz_36 : True) => ?_)
        have hqz_36 : z_36.toInt = jSo C.s (z_35.toInt) := by unfold jSo; rw [ez_36]
        refine lv_iconst (v := 2) hx hb dX13_print_176 (by decide) ?_
        have C185 : ∀ (w0_37 : Int32) (H_37 : Heap) (locs_37 : List Loc), jSt (dC, dI) B base G0 G0 EX13_print s.heap 0 0 [(r0, 15, 49, .int pv), (r0, 15, 48, .ref zm), (r0, 15, 0, .ref zs), (r0, 15, 1, .ref zn), (r0, 15, 2, .ref za), (r0, 15, 3, .ref zb), (r0, 15, 4, .ref zc), (r0, 15, 14, .ref zy)] [(zm, 164, 100, ca 1, fm), (zs, 150, 120000, ca 1, C.s), (zn, 151, 120000, ca 1, C.n), (za, 152, 120000, ca 1, C.a), (zb, 153, 120000, ca 1, C.b), (zc, 154, 120000, ca 1, C.c), (zy, 165, 16, ca 1, C.y)] [] H_37 locs_37 → (w0_37 = 0 ∨ w0_37 = 1) → (True) → ∀ ls : Array Slot, lv_has ls 4 [(0, .ref r0), (1, .int a1), (2, .int a2), (3, .int z_1)] → W p l e R s m ([.ref r0, .int a1, .int a2] : List Value).toArray below meth c H_37 locs_37 0 0 Q (F0 m 185 ls [.int w0_37, .int z_34, .ref r0]) := by
          intro w0_37 H_37 locs_37 hh_37 hb_w0_37 hi_37 ls hl
          have hb_w0_37' := jb_01 hb_w0_37
          refine lv_iconst (v := 0) hx hb dX13_print_185 (by decide) ?_
          refine va_callv (A0 := jA base) (H0 := s.heap) (va_runV (As := [.int z_34, .int w0_37, .int 0]) (rest := []) ⟨hx, hb, hml, hown, hts⟩ (ihS (d - 1) (by omega) G0 H_37 r0 z_34 w0_37 0 pv zm zs zn za zb zc zy M fm C) (cwV 3 hts (jgV (jWr_71 _ (List.mem_of_getElem? (i := 9) rfl)) (jWr_71 _ (List.mem_of_getElem? (i := 10) rfl)) (jWr_71 _ (List.mem_of_getElem? (i := 11) rfl)) (jWr_12 _ (List.mem_of_getElem? (i := 12) rfl)) (jWr_72 _ (List.mem_of_getElem? (i := 8) rfl))) rfl rfl rfl (by decide +kernel) ⟨by rw [← hR]; show (3 * (d - 1) + 11) + 1 ≤ 3 * d + 10; omega, by rw [← hR]; show 8 + (5 + 11) + (90 * (d - 1) + 1040) ≤ 90 * d + 1000; omega⟩) ⟨fun a U g mk q => by obtain ⟨q0, q1, q2, qK, q10, q11, q12, q13, q14, q15, q16, q17, q18, q19, q20, q21, q22⟩ := q; exact ⟨q0, q1, q2, jG.calling g mk a qK, q10, q11, q12, q13, q14, q15, q16, q17, q18, q19, q20, q21, q22⟩, hh_37.recv (C := RX13) (T := TX13) (N := 50) hB15 rfl (by decide) hg_r0 hK, fun U hU hW => ⟨rfl, hU, hh_37.2.1, hG.step hW hU hh_37.1, hg_r0, (hb_w0_37), (Or.inl rfl), hg_zm, hg_zs, hg_zn, hg_za, hg_zb, hg_zc, hg_zy, (hh_37.2.2.1.sub (L1 := [(r0, 15, 49, .int pv), (r0, 15, 48, .ref zm), (r0, 15, 0, .ref zs), (r0, 15, 1, .ref zn), (r0, 15, 2, .ref za), (r0, 15, 3, .ref zb), (r0, 15, 4, .ref zc), (r0, 15, 14, .ref zy)]) [0, 1, 2, 3, 4, 5, 6, 7] rfl), (hh_37.2.2.2.2.2.2.2.1.sub (L1 := [(zm, 164, 100, ca 1, fm), (zs, 150, 120000, ca 1, C.s), (zn, 151, 120000, ca 1, C.n), (za, 152, 120000, ca 1, C.a), (zb, 153, 120000, ca 1, C.b), (zc, 154, 120000, ca 1, C.c), (zy, 165, 16, ca 1, C.y)]) [0, 1, 2, 3, 4, 5, 6] rfl), ⟨(by first | assumption | (rw [hqz_34]; exact h2.1) | exact hp1 | omega), (by first | assumption | (rw [hqz_34]; exact h2.1) | exact hp1 | omega), (by first | omega | rfl | assumption | (rw [hqz_34]; exact h2.1) | exact hp1), (by first | omega | rfl | assumption | (rw [hqz_34]; exact h2.1) | exact hp1), (by first | omega | rfl | assumption | (rw [hqz_34]; exact h2.1) | exact hp1), (by first | omega | rfl | assumption | (rw [hqz_34]; exact h2.1) | exact hp1), (by first | omega | rfl | assumption | (rw [hqz_34]; exact h2.1) | exact hp1)⟩⟩⟩ rfl rfl hl.1 rfl (lv_room (Nat.le_of_ble_eq_true rfl)) dX13_print_186 ⟨Nat.zero_le _, Nat.zero_le _⟩) hh_37.1 (fun q _ h => h) (fun q h => h) (fun u_38 t_38 H_38 locs_38 ht_38 hvm_38 hr_39 hb_38 hz_38 hk_38 hS_38 => ?_)
          obtain ⟨qv_38, gm_38⟩ := u_38
          rw [ht_38] at hb_38
          obtain ⟨⟨hb_381, hb_382, hb_383, hb_384, hb_385⟩, hb_386⟩ := hb_38
          have hh_38 : jSt (dC, dI) B base G0 G0 EX13_print s.heap 0 0 [(r0, 15, 49, .int qv_38), (r0, 15, 48, .ref zm), (r0, 15, 0, .ref zs), (r0, 15, 1, .ref zn), (r0, 15, 2, .ref za), (r0, 15, 3, .ref zb), (r0, 15, 4, .ref zc), (r0, 15, 14, .ref zy)] [(zm, 164, 100, ca 1, gm_38), (zs, 150, 120000, ca 1, C.s), (zn, 151, 120000, ca 1, C.n), (za, 152, 120000, ca 1, C.a), (zb, 153, 120000, ca 1, C.b), (zc, 154, 120000, ca 1, C.c), (zy, 165, 16, ca 1, C.y)] [] H_38 locs_38 := ((hh_37.call hb_381 hb_382 hb_383 hb_384 hS_38 rfl (L1 := [(r0, 15, 48, .ref zm), (r0, 15, 0, .ref zs), (r0, 15, 1, .ref zn), (r0, 15, 2, .ref za), (r0, 15, 3, .ref zb), (r0, 15, 4, .ref zc), (r0, 15, 14, .ref zy)]) [1, 2, 3, 4, 5, 6, 7] rfl rfl (M1 := [(zs, 150, 120000, ca 1, C.s), (zn, 151, 120000, ca 1, C.n), (za, 152, 120000, ca 1, C.a), (zb, 153, 120000, ca 1, C.b), (zc, 154, 120000, ca 1, C.c), (zy, 165, 16, ca 1, C.y)]) [1, 2, 3, 4, 5, 6] rfl rfl (I1 := []) [] rfl rfl).more hb_385).moreM hb_386
          clear hh_37 ht_38 hvm_38 hz_38 hk_38 hS_38 hb_381 hb_382 hb_383 hb_384 hb_385
          clear hb_386
          try simp only at hr_39
          obtain ⟨hr_39_0, hr_39_1⟩ := hr_39
          refine lv_aload_n hx hb dX13_print_189 rfl (lv_at hl 0 rfl) ?_
          refine j_ldcSw hx hb hown rstr406 dX13_print_190 ?_
          refine va_callv (A0 := jA base) (H0 := s.heap) (va_runV (As := [.ref str406]) (rest := []) ⟨hx, hb, hml, hown, hts⟩ (uX13_words l dC dI ca base B hB hAp hB15 hB101 G0 H_38 r0 str406 3) (cwV 1 hts (jgV (jWr_70 _ (List.mem_of_getElem? (i := 20) rfl)) (jWr_70 _ (List.mem_of_getElem? (i := 21) rfl)) (jWr_70 _ (List.mem_of_getElem? (i := 22) rfl)) (jWr_12 _ (List.mem_of_getElem? (i := 12) rfl)) (jWr_70 _ (List.mem_of_getElem? (i := 23) rfl))) rfl rfl rfl (by decide +kernel) ⟨by rw [← hR]; show (4) + 1 ≤ 3 * d + 10; omega, by rw [← hR]; show 8 + (3 + 11) + (141) ≤ 90 * d + 1000; omega⟩) ⟨fun a U g mk q => by obtain ⟨q0, q1, q2, qK, q10, q11, q12, q13⟩ := q; exact ⟨q0, q1, q2, jG.calling g mk a qK, (q10.moved (Vm.Alike.refl U.vm)), q11, q12, q13⟩, hh_38.recv (C := RX13) (T := TX13) (N := 50) hB15 rfl (by decide) hg_r0 hK, fun U hU hW => ⟨rfl, hU, hh_38.2.1, hG.step hW hU hh_38.1, (hstr406.moved hW.alike).kept hh_38.1.2.1, hg_r0, jP.nil, by first | omega | rfl | assumption | decide | exact Or.inl rfl | exact Or.inr rfl | (simp only; omega)⟩⟩ rfl rfl hl.1 rfl (lv_room (Nat.le_of_ble_eq_true rfl)) dX13_print_193 ⟨Nat.zero_le _, Nat.zero_le _⟩) hh_38.1 (fun q _ h => h) (fun q h => h) (fun u_40 t_40 H_40 locs_40 ht_40 hvm_40 hr_41 hb_40 hz_40 hk_40 hS_40 => ?_)
          rw [ht_40] at hb_40
          obtain ⟨hb_401, hb_402, hb_403, hb_404, hb_405⟩ := hb_40
          have hh_40 : jSt (dC, dI) B base G0 G0 EX13_print s.heap 0 0 [(r0, 15, 49, .int qv_38), (r0, 15, 48, .ref zm), (r0, 15, 0, .ref zs), (r0, 15, 1, .ref zn), (r0, 15, 2, .ref za), (r0, 15, 3, .ref zb), (r0, 15, 4, .ref zc), (r0, 15, 14, .ref zy)] [(zm, 164, 100, ca 1, gm_38), (zs, 150, 120000, ca 1, C.s), (zn, 151, 120000, ca 1, C.n), (za, 152, 120000, ca 1, C.a), (zb, 153, 120000, ca 1, C.b), (zc, 154, 120000, ca 1, C.c), (zy, 165, 16, ca 1, C.y)] [] H_40 locs_40 := ((hh_38.call hb_401 hb_402 hb_403 hb_404 hS_40 rfl (L1 := [(r0, 15, 49, .int qv_38), (r0, 15, 48, .ref zm), (r0, 15, 0, .ref zs), (r0, 15, 1, .ref zn), (r0, 15, 2, .ref za), (r0, 15, 3, .ref zb), (r0, 15, 4, .ref zc), (r0, 15, 14, .ref zy)]) [0, 1, 2, 3, 4, 5, 6, 7] rfl rfl (M1 := [(zm, 164, 100, ca 1, gm_38), (zs, 150, 120000, ca 1, C.s), (zn, 151, 120000, ca 1, C.n), (za, 152, 120000, ca 1, C.a), (zb, 153, 120000, ca 1, C.b), (zc, 154, 120000, ca 1, C.c), (zy, 165, 16, ca 1, C.y)]) [0, 1, 2, 3, 4, 5, 6] rfl rfl (I1 := []) [] rfl rfl).more hb_405)
          clear hh_38 ht_40 hvm_40 hz_40 hk_40 hS_40 hb_401 hb_402 hb_403 hb_404 hb_405
          refine lv_aload_n hx hb dX13_print_196 rfl (lv_at hl 0 rfl) ?_
          refine lv_aload_n hx hb dX13_print_197 rfl (lv_at hl 0 rfl) ?_
          refine j7_read hx hb hown hK (C := RX13) (T := TX13) (N := 50) rfl hly_15_3 hlk_22 (hh_40.at 5 rfl) dX13_print_198 ?_
          refine lv_iload_n hx hb dX13_print_201 rfl (lv_at hl 1 rfl) ?_
          refine j7_ialdM hx hb hK hh_40 hB153 1 rfl (by decide) hg_zb (x := a1.toInt) (rfl) (by omega) (j := 4) rfl dX13_print_202 (fun z_42 ez_42 (hz_42 : True) => ?_)
          have hqz_42 : z_42.toInt = jSo C.b (a1.toInt) := by unfold jSo; rw [ez_42]
          refine lv_aload_n hx hb dX13_print_203 rfl (lv_at hl 0 rfl) ?_
          refine j7_read hx hb hown hK (C := RX13) (T := TX13) (N := 50) rfl hly_15_0 hlk_12 (hh_40.at 2 rfl) dX13_print_204 ?_
          refine lv_aload_n hx hb dX13_print_207 rfl (lv_at hl 0 rfl) ?_
          refine j7_read hx hb hown hK (C := RX13) (T := TX13) (N := 50) rfl hly_15_3 hlk_22 (hh_40.at 5 rfl) dX13_print_208 ?_
          refine lv_iload_n hx hb dX13_print_211 rfl (lv_at hl 1 rfl) ?_
          refine j7_ialdM hx hb hK hh_40 hB153 1 rfl (by decide) hg_zb (x := a1.toInt) (rfl) (by omega) (j := 4) rfl dX13_print_212 (fun z_43 ez_43 (hz_43 : True) => ?_)
          have hqz_43 : z_43.toInt = jSo C.b (a1.toInt) := by unfold jSo; rw [ez_43]
          refine j7_ialdM hx hb hK hh_40 hB150 1 rfl (by decide) hg_zs (x := z_43.toInt) (rfl) (by omega) (j := 1) rfl dX13_print_213 (fun z_44 ez_44 (hz_44 : True) => ?_)
          have hqz_44 : z_44.toInt = jSo C.s (z_43.toInt) := by unfold jSo; rw [ez_44]
          have C237 : ∀ (w0_45 : Int32) (H_45 : Heap) (locs_45 : List Loc), jSt (dC, dI) B base G0 G0 EX13_print s.heap 0 0 [(r0, 15, 49, .int qv_38), (r0, 15, 48, .ref zm), (r0, 15, 0, .ref zs), (r0, 15, 1, .ref zn), (r0, 15, 2, .ref za), (r0, 15, 3, .ref zb), (r0, 15, 4, .ref zc), (r0, 15, 14, .ref zy)] [(zm, 164, 100, ca 1, gm_38), (zs, 150, 120000, ca 1, C.s), (zn, 151, 120000, ca 1, C.n), (za, 152, 120000, ca 1, C.a), (zb, 153, 120000, ca 1, C.b), (zc, 154, 120000, ca 1, C.c), (zy, 165, 16, ca 1, C.y)] [] H_45 locs_45 → (w0_45 = 0 ∨ w0_45 = 1) → (True) → ∀ ls : Array Slot, lv_has ls 4 [(0, .ref r0), (1, .int a1), (2, .int a2), (3, .int z_1)] → W p l e R s m ([.ref r0, .int a1, .int a2] : List Value).toArray below meth c H_45 locs_45 0 0 Q (F0 m 237 ls [.int w0_45, .int z_42, .ref r0]) := by
            intro w0_45 H_45 locs_45 hh_45 hb_w0_45 hi_45 ls hl
            have hb_w0_45' := jb_01 hb_w0_45
            refine lv_iload_n hx hb dX13_print_237 rfl (lv_at hl 2 rfl) ?_
            refine va_callv (A0 := jA base) (H0 := s.heap) (va_runV (As := [.int z_42, .int w0_45, .int a2]) (rest := []) ⟨hx, hb, hml, hown, hts⟩ (ihS (d - 1) (by omega) G0 H_45 r0 z_42 w0_45 a2 qv_38 zm zs zn za zb zc zy M gm_38 C) (cwV 3 hts (jgV (jWr_71 _ (List.mem_of_getElem? (i := 9) rfl)) (jWr_71 _ (List.mem_of_getElem? (i := 10) rfl)) (jWr_71 _ (List.mem_of_getElem? (i := 11) rfl)) (jWr_12 _ (List.mem_of_getElem? (i := 12) rfl)) (jWr_72 _ (List.mem_of_getElem? (i := 8) rfl))) rfl rfl rfl (by decide +kernel) ⟨by rw [← hR]; show (3 * (d - 1) + 11) + 1 ≤ 3 * d + 10; omega, by rw [← hR]; show 8 + (5 + 11) + (90 * (d - 1) + 1040) ≤ 90 * d + 1000; omega⟩) ⟨fun a U g mk q => by obtain ⟨q0, q1, q2, qK, q10, q11, q12, q13, q14, q15, q16, q17, q18, q19, q20, q21, q22⟩ := q; exact ⟨q0, q1, q2, jG.calling g mk a qK, q10, q11, q12, q13, q14, q15, q16, q17, q18, q19, q20, q21, q22⟩, hh_45.recv (C := RX13) (T := TX13) (N := 50) hB15 rfl (by decide) hg_r0 hK, fun U hU hW => ⟨rfl, hU, hh_45.2.1, hG.step hW hU hh_45.1, hg_r0, (hb_w0_45), (hz_a2), hg_zm, hg_zs, hg_zn, hg_za, hg_zb, hg_zc, hg_zy, (hh_45.2.2.1.sub (L1 := [(r0, 15, 49, .int qv_38), (r0, 15, 48, .ref zm), (r0, 15, 0, .ref zs), (r0, 15, 1, .ref zn), (r0, 15, 2, .ref za), (r0, 15, 3, .ref zb), (r0, 15, 4, .ref zc), (r0, 15, 14, .ref zy)]) [0, 1, 2, 3, 4, 5, 6, 7] rfl), (hh_45.2.2.2.2.2.2.2.1.sub (L1 := [(zm, 164, 100, ca 1, gm_38), (zs, 150, 120000, ca 1, C.s), (zn, 151, 120000, ca 1, C.n), (za, 152, 120000, ca 1, C.a), (zb, 153, 120000, ca 1, C.b), (zc, 154, 120000, ca 1, C.c), (zy, 165, 16, ca 1, C.y)]) [0, 1, 2, 3, 4, 5, 6] rfl), ⟨(by first | assumption | (rw [hr_39_0, hqz_42]; exact h2.2.1) | (rw [hr_39_0]; exact hp1.eq hr_39_1) | omega), (by first | assumption | (rw [hr_39_0, hqz_42]; exact h2.2.1) | (rw [hr_39_0]; exact hp1.eq hr_39_1) | omega), (by first | omega | rfl | assumption | (rw [hr_39_0, hqz_42]; exact h2.2.1) | (rw [hr_39_0]; exact hp1.eq hr_39_1)), (by first | omega | rfl | assumption | (rw [hr_39_0, hqz_42]; exact h2.2.1) | (rw [hr_39_0]; exact hp1.eq hr_39_1)), (by first | omega | rfl | assumption | (rw [hr_39_0, hqz_42]; exact h2.2.1) | (rw [hr_39_0]; exact hp1.eq hr_39_1)), (by first | omega | rfl | assumption | (rw [hr_39_0, hqz_42]; exact h2.2.1) | (rw [hr_39_0]; exact hp1.eq hr_39_1)), (by first | omega | rfl | assumption | (rw [hr_39_0, hqz_42]; exact h2.2.1) | (rw [hr_39_0]; exact hp1.eq hr_39_1))⟩⟩⟩ rfl rfl hl.1 rfl (lv_room (Nat.le_of_ble_eq_true rfl)) dX13_print_238 ⟨Nat.zero_le _, Nat.zero_le _⟩) hh_45.1 (fun q _ h => h) (fun q h => h) (fun u_46 t_46 H_46 locs_46 ht_46 hvm_46 hr_47 hb_46 hz_46 hk_46 hS_46 => ?_)
            obtain ⟨qv_46, gm_46⟩ := u_46
            rw [ht_46] at hb_46
            obtain ⟨⟨hb_461, hb_462, hb_463, hb_464, hb_465⟩, hb_466⟩ := hb_46
            have hh_46 : jSt (dC, dI) B base G0 G0 EX13_print s.heap 0 0 [(r0, 15, 49, .int qv_46), (r0, 15, 48, .ref zm), (r0, 15, 0, .ref zs), (r0, 15, 1, .ref zn), (r0, 15, 2, .ref za), (r0, 15, 3, .ref zb), (r0, 15, 4, .ref zc), (r0, 15, 14, .ref zy)] [(zm, 164, 100, ca 1, gm_46), (zs, 150, 120000, ca 1, C.s), (zn, 151, 120000, ca 1, C.n), (za, 152, 120000, ca 1, C.a), (zb, 153, 120000, ca 1, C.b), (zc, 154, 120000, ca 1, C.c), (zy, 165, 16, ca 1, C.y)] [] H_46 locs_46 := ((hh_45.call hb_461 hb_462 hb_463 hb_464 hS_46 rfl (L1 := [(r0, 15, 48, .ref zm), (r0, 15, 0, .ref zs), (r0, 15, 1, .ref zn), (r0, 15, 2, .ref za), (r0, 15, 3, .ref zb), (r0, 15, 4, .ref zc), (r0, 15, 14, .ref zy)]) [1, 2, 3, 4, 5, 6, 7] rfl rfl (M1 := [(zs, 150, 120000, ca 1, C.s), (zn, 151, 120000, ca 1, C.n), (za, 152, 120000, ca 1, C.a), (zb, 153, 120000, ca 1, C.b), (zc, 154, 120000, ca 1, C.c), (zy, 165, 16, ca 1, C.y)]) [1, 2, 3, 4, 5, 6] rfl rfl (I1 := []) [] rfl rfl).more hb_465).moreM hb_466
            clear hh_45 ht_46 hvm_46 hz_46 hk_46 hS_46 hb_461 hb_462 hb_463 hb_464 hb_465
            clear hb_466
            try simp only at hr_47
            obtain ⟨hr_47_0, hr_47_1⟩ := hr_47
            refine lv_goto (tgt := 365) hx hb dX13_print_241 (by decide) ?_
            rw [hQ]
            exact W.vret hx hb hr (fun t ht hW => ⟨⟨(qv_46, gm_46), rfl, by (try dsimp only); refine ⟨by omega, ?_⟩; have h8 := hr_47_1; rw [hr_39_0] at h8; exact hr_39_1.tr h8, ⟨hh_46.rt (M1 := [(r0, 15, 49, .int qv_46)]) [0] rfl ht, by rw [ht]; exact hh_46.2.2.2.2.2.2.2.1.sub [0] rfl⟩⟩, by rw [ht]; try exact hh_46.1.1, fun q h9 hq => by rw [ht]; try exact hh_46.1.2.1 q h9 hq⟩) hh_46.1.2.2 dX13_print_365
          have C232 : ∀ (H_48 : Heap) (locs_48 : List Loc), jSt (dC, dI) B base G0 G0 EX13_print s.heap 0 0 [(r0, 15, 49, .int qv_38), (r0, 15, 48, .ref zm), (r0, 15, 0, .ref zs), (r0, 15, 1, .ref zn), (r0, 15, 2, .ref za), (r0, 15, 3, .ref zb), (r0, 15, 4, .ref zc), (r0, 15, 14, .ref zy)] [(zm, 164, 100, ca 1, gm_38), (zs, 150, 120000, ca 1, C.s), (zn, 151, 120000, ca 1, C.n), (za, 152, 120000, ca 1, C.a), (zb, 153, 120000, ca 1, C.b), (zc, 154, 120000, ca 1, C.c), (zy, 165, 16, ca 1, C.y)] [] H_48 locs_48 → (True) → ∀ ls : Array Slot, lv_has ls 4 [(0, .ref r0), (1, .int a1), (2, .int a2), (3, .int z_1)] → W p l e R s m ([.ref r0, .int a1, .int a2] : List Value).toArray below meth c H_48 locs_48 0 0 Q (F0 m 232 ls [.int z_42, .ref r0]) := by
            intro  H_48 locs_48 hh_48  hi_48 ls hl
            refine lv_iconst (v := 1) hx hb dX13_print_232 (by decide) ?_
            refine lv_goto (tgt := 237) hx hb dX13_print_233 (by decide) ?_
            exact C237 1 _ _ hh_48 (Or.inr rfl) (trivial) _ (lv_sub hl [0, 1, 2, 3] rfl)
          refine lv_if_eq (tgt := 232) hx hb dX13_print_214 (by decide) (fun c_49 => ?_) (fun c_49 => ?_)
          · skip
            have c_49' : z_44.toInt = 0 := jb_eq (rfl) ((by decide)) c_49
            exact C232  _ _ hh_40 (trivial) _ (lv_sub hl [0, 1, 2, 3] rfl)
          · skip
            have c_49' : z_44.toInt ≠ 0 := jb_eq_n (rfl) ((by decide)) c_49
            refine lv_aload_n hx hb dX13_print_217 rfl (lv_at hl 0 rfl) ?_
            refine j7_read hx hb hown hK (C := RX13) (T := TX13) (N := 50) rfl hly_15_0 hlk_12 (hh_40.at 2 rfl) dX13_print_218 ?_
            refine lv_aload_n hx hb dX13_print_221 rfl (lv_at hl 0 rfl) ?_
            refine j7_read hx hb hown hK (C := RX13) (T := TX13) (N := 50) rfl hly_15_3 hlk_22 (hh_40.at 5 rfl) dX13_print_222 ?_
            refine lv_iload_n hx hb dX13_print_225 rfl (lv_at hl 1 rfl) ?_
            refine j7_ialdM hx hb hK hh_40 hB153 1 rfl (by decide) hg_zb (x := a1.toInt) (rfl) (by omega) (j := 4) rfl dX13_print_226 (fun z_50 ez_50 (hz_50 : True) => ?_)
            have hqz_50 : z_50.toInt = jSo C.b (a1.toInt) := by unfold jSo; rw [ez_50]
            refine j7_ialdM hx hb hK hh_40 hB150 1 rfl (by decide) hg_zs (x := z_50.toInt) (rfl) (by omega) (j := 1) rfl dX13_print_227 (fun z_51 ez_51 (hz_51 : True) => ?_)
            have hqz_51 : z_51.toInt = jSo C.s (z_50.toInt) := by unfold jSo; rw [ez_51]
            refine lv_iconst (v := 2) hx hb dX13_print_228 (by decide) ?_
            refine lv_icmp_ne (tgt := 236) hx hb dX13_print_229 (by decide) (fun c_52 => ?_) (fun c_52 => ?_)
            · skip
              have c_52' : z_51.toInt ≠ 2 := jb_ne (rfl) ((by decide)) c_52
              refine lv_iconst (v := 0) hx hb dX13_print_236 (by decide) ?_
              exact C237 0 _ _ hh_40 (Or.inl rfl) (trivial) _ (lv_sub hl [0, 1, 2, 3] rfl)
            · skip
              have c_52' : z_51.toInt = 2 := jb_ne_n (rfl) ((by decide)) c_52
              exact C232  _ _ hh_40 (trivial) _ (lv_sub hl [0, 1, 2, 3] rfl)
        refine lv_icmp_gt (tgt := 184) hx hb dX13_print_177 (by decide) (fun c_53 => ?_) (fun c_53 => ?_)
        · skip
          have c_53' : z_36.toInt > 2 := jb_gt (rfl) ((by decide)) c_53
          refine lv_iconst (v := 0) hx hb dX13_print_184 (by decide) ?_
          exact C185 0 _ _ hh (Or.inl rfl) (trivial) _ (lv_sub hl [1, 2, 3, 0] rfl)
        · skip
          have c_53' : z_36.toInt ≤ 2 := jb_gt_n (rfl) ((by decide)) c_53
          refine lv_iconst (v := 1) hx hb dX13_print_180 (by decide) ?_
          refine lv_goto (tgt := 185) hx hb dX13_print_181 (by decide) ?_
          exact C185 1 _ _ hh (Or.inr rfl) (trivial) _ (lv_sub hl [1, 2, 3, 0] rfl)
    · skip
      have c_3' : z_1.toInt = 2 := jb_ne_n (rfl) ((by decide)) c_3
      have h2 := hp0.two (by omega)
      have h2a := h2.2.2.1
      have h2b := h2.2.2.2
      refine lv_aload_n hx hb dX13_print_68 rfl (lv_at hl 1 rfl) ?_
      refine lv_aload_n hx hb dX13_print_69 rfl (lv_at hl 1 rfl) ?_
      refine j7_read hx hb hown hK (C := RX13) (T := TX13) (N := 50) rfl hly_15_2 hlk_19 (hh.at 4 rfl) dX13_print_70 ?_
      refine lv_iload_n hx hb dX13_print_73 rfl (lv_at hl 2 rfl) ?_
      refine j7_ialdM hx hb hK hh hB152 1 rfl (by decide) hg_za (x := a1.toInt) (rfl) (by omega) (j := 3) rfl dX13_print_74 (fun z_54 ez_54 (hz_54 : True) => ?_)
      have hqz_54 : z_54.toInt = jSo C.a (a1.toInt) := by unfold jSo; rw [ez_54]
      refine lv_aload_n hx hb dX13_print_75 rfl (lv_at hl 1 rfl) ?_
      refine j7_read hx hb hown hK (C := RX13) (T := TX13) (N := 50) rfl hly_15_0 hlk_12 (hh.at 2 rfl) dX13_print_76 ?_
      refine lv_aload_n hx hb dX13_print_79 rfl (lv_at hl 1 rfl) ?_
      refine j7_read hx hb hown hK (C := RX13) (T := TX13) (N := 50) rfl hly_15_2 hlk_19 (hh.at 4 rfl) dX13_print_80 ?_
      refine lv_iload_n hx hb dX13_print_83 rfl (lv_at hl 2 rfl) ?_
      refine j7_ialdM hx hb hK hh hB152 1 rfl (by decide) hg_za (x := a1.toInt) (rfl) (by omega) (j := 3) rfl dX13_print_84 (fun z_55 ez_55 (hz_55 : True) => ?_)
      have hqz_55 : z_55.toInt = jSo C.a (a1.toInt) := by unfold jSo; rw [ez_55]
      refine j7_ialdM hx hb hK hh hB150 1 rfl (by decide) hg_zs (x := z_55.toInt) (rfl) (by omega) (j := 1) rfl dX13_print_85 (fun z_56 ez_56 (hz_56 : True) => ?_)
      have hqz_56 : z_56.toInt = jSo C.s (z_55.toInt) := by unfold jSo; rw [ez_56]
      have C109 : ∀ (w0_57 : Int32) (H_57 : Heap) (locs_57 : List Loc), jSt (dC, dI) B base G0 G0 EX13_print s.heap 0 0 [(r0, 15, 49, .int pv), (r0, 15, 48, .ref zm), (r0, 15, 0, .ref zs), (r0, 15, 1, .ref zn), (r0, 15, 2, .ref za), (r0, 15, 3, .ref zb), (r0, 15, 4, .ref zc), (r0, 15, 14, .ref zy)] [(zm, 164, 100, ca 1, fm), (zs, 150, 120000, ca 1, C.s), (zn, 151, 120000, ca 1, C.n), (za, 152, 120000, ca 1, C.a), (zb, 153, 120000, ca 1, C.b), (zc, 154, 120000, ca 1, C.c), (zy, 165, 16, ca 1, C.y)] [] H_57 locs_57 → (w0_57 = 0 ∨ w0_57 = 1) → (True) → ∀ ls : Array Slot, lv_has ls 4 [(0, .ref r0), (1, .int a1), (2, .int a2), (3, .int z_1)] → W p l e R s m ([.ref r0, .int a1, .int a2] : List Value).toArray below meth c H_57 locs_57 0 0 Q (F0 m 109 ls [.int w0_57, .int z_54, .ref r0]) := by
        intro w0_57 H_57 locs_57 hh_57 hb_w0_57 hi_57 ls hl
        have hb_w0_57' := jb_01 hb_w0_57
        refine lv_iconst (v := 0) hx hb dX13_print_109 (by decide) ?_
        refine va_callv (A0 := jA base) (H0 := s.heap) (va_runV (As := [.int z_54, .int w0_57, .int 0]) (rest := []) ⟨hx, hb, hml, hown, hts⟩ (ihS (d - 1) (by omega) G0 H_57 r0 z_54 w0_57 0 pv zm zs zn za zb zc zy M fm C) (cwV 3 hts (jgV (jWr_71 _ (List.mem_of_getElem? (i := 9) rfl)) (jWr_71 _ (List.mem_of_getElem? (i := 10) rfl)) (jWr_71 _ (List.mem_of_getElem? (i := 11) rfl)) (jWr_12 _ (List.mem_of_getElem? (i := 12) rfl)) (jWr_72 _ (List.mem_of_getElem? (i := 8) rfl))) rfl rfl rfl (by decide +kernel) ⟨by rw [← hR]; show (3 * (d - 1) + 11) + 1 ≤ 3 * d + 10; omega, by rw [← hR]; show 8 + (5 + 11) + (90 * (d - 1) + 1040) ≤ 90 * d + 1000; omega⟩) ⟨fun a U g mk q => by obtain ⟨q0, q1, q2, qK, q10, q11, q12, q13, q14, q15, q16, q17, q18, q19, q20, q21, q22⟩ := q; exact ⟨q0, q1, q2, jG.calling g mk a qK, q10, q11, q12, q13, q14, q15, q16, q17, q18, q19, q20, q21, q22⟩, hh_57.recv (C := RX13) (T := TX13) (N := 50) hB15 rfl (by decide) hg_r0 hK, fun U hU hW => ⟨rfl, hU, hh_57.2.1, hG.step hW hU hh_57.1, hg_r0, (hb_w0_57), (Or.inl rfl), hg_zm, hg_zs, hg_zn, hg_za, hg_zb, hg_zc, hg_zy, (hh_57.2.2.1.sub (L1 := [(r0, 15, 49, .int pv), (r0, 15, 48, .ref zm), (r0, 15, 0, .ref zs), (r0, 15, 1, .ref zn), (r0, 15, 2, .ref za), (r0, 15, 3, .ref zb), (r0, 15, 4, .ref zc), (r0, 15, 14, .ref zy)]) [0, 1, 2, 3, 4, 5, 6, 7] rfl), (hh_57.2.2.2.2.2.2.2.1.sub (L1 := [(zm, 164, 100, ca 1, fm), (zs, 150, 120000, ca 1, C.s), (zn, 151, 120000, ca 1, C.n), (za, 152, 120000, ca 1, C.a), (zb, 153, 120000, ca 1, C.b), (zc, 154, 120000, ca 1, C.c), (zy, 165, 16, ca 1, C.y)]) [0, 1, 2, 3, 4, 5, 6] rfl), ⟨(by first | assumption | (rw [hqz_54]; exact h2.1) | exact hp1 | omega), (by first | assumption | (rw [hqz_54]; exact h2.1) | exact hp1 | omega), (by first | omega | rfl | assumption | (rw [hqz_54]; exact h2.1) | exact hp1), (by first | omega | rfl | assumption | (rw [hqz_54]; exact h2.1) | exact hp1), (by first | omega | rfl | assumption | (rw [hqz_54]; exact h2.1) | exact hp1), (by first | omega | rfl | assumption | (rw [hqz_54]; exact h2.1) | exact hp1), (by first | omega | rfl | assumption | (rw [hqz_54]; exact h2.1) | exact hp1)⟩⟩⟩ rfl rfl hl.1 rfl (lv_room (Nat.le_of_ble_eq_true rfl)) dX13_print_110 ⟨Nat.zero_le _, Nat.zero_le _⟩) hh_57.1 (fun q _ h => h) (fun q h => h) (fun u_58 t_58 H_58 locs_58 ht_58 hvm_58 hr_59 hb_58 hz_58 hk_58 hS_58 => ?_)
        obtain ⟨qv_58, gm_58⟩ := u_58
        rw [ht_58] at hb_58
        obtain ⟨⟨hb_581, hb_582, hb_583, hb_584, hb_585⟩, hb_586⟩ := hb_58
        have hh_58 : jSt (dC, dI) B base G0 G0 EX13_print s.heap 0 0 [(r0, 15, 49, .int qv_58), (r0, 15, 48, .ref zm), (r0, 15, 0, .ref zs), (r0, 15, 1, .ref zn), (r0, 15, 2, .ref za), (r0, 15, 3, .ref zb), (r0, 15, 4, .ref zc), (r0, 15, 14, .ref zy)] [(zm, 164, 100, ca 1, gm_58), (zs, 150, 120000, ca 1, C.s), (zn, 151, 120000, ca 1, C.n), (za, 152, 120000, ca 1, C.a), (zb, 153, 120000, ca 1, C.b), (zc, 154, 120000, ca 1, C.c), (zy, 165, 16, ca 1, C.y)] [] H_58 locs_58 := ((hh_57.call hb_581 hb_582 hb_583 hb_584 hS_58 rfl (L1 := [(r0, 15, 48, .ref zm), (r0, 15, 0, .ref zs), (r0, 15, 1, .ref zn), (r0, 15, 2, .ref za), (r0, 15, 3, .ref zb), (r0, 15, 4, .ref zc), (r0, 15, 14, .ref zy)]) [1, 2, 3, 4, 5, 6, 7] rfl rfl (M1 := [(zs, 150, 120000, ca 1, C.s), (zn, 151, 120000, ca 1, C.n), (za, 152, 120000, ca 1, C.a), (zb, 153, 120000, ca 1, C.b), (zc, 154, 120000, ca 1, C.c), (zy, 165, 16, ca 1, C.y)]) [1, 2, 3, 4, 5, 6] rfl rfl (I1 := []) [] rfl rfl).more hb_585).moreM hb_586
        clear hh_57 ht_58 hvm_58 hz_58 hk_58 hS_58 hb_581 hb_582 hb_583 hb_584 hb_585
        clear hb_586
        try simp only at hr_59
        obtain ⟨hr_59_0, hr_59_1⟩ := hr_59
        refine lv_aload_n hx hb dX13_print_113 rfl (lv_at hl 0 rfl) ?_
        refine j_ldcSw hx hb hown rstr404 dX13_print_114 ?_
        refine va_callv (A0 := jA base) (H0 := s.heap) (va_runV (As := [.ref str404]) (rest := []) ⟨hx, hb, hml, hown, hts⟩ (uX13_words l dC dI ca base B hB hAp hB15 hB101 G0 H_58 r0 str404 3) (cwV 1 hts (jgV (jWr_70 _ (List.mem_of_getElem? (i := 20) rfl)) (jWr_70 _ (List.mem_of_getElem? (i := 21) rfl)) (jWr_70 _ (List.mem_of_getElem? (i := 22) rfl)) (jWr_12 _ (List.mem_of_getElem? (i := 12) rfl)) (jWr_70 _ (List.mem_of_getElem? (i := 23) rfl))) rfl rfl rfl (by decide +kernel) ⟨by rw [← hR]; show (4) + 1 ≤ 3 * d + 10; omega, by rw [← hR]; show 8 + (3 + 11) + (141) ≤ 90 * d + 1000; omega⟩) ⟨fun a U g mk q => by obtain ⟨q0, q1, q2, qK, q10, q11, q12, q13⟩ := q; exact ⟨q0, q1, q2, jG.calling g mk a qK, (q10.moved (Vm.Alike.refl U.vm)), q11, q12, q13⟩, hh_58.recv (C := RX13) (T := TX13) (N := 50) hB15 rfl (by decide) hg_r0 hK, fun U hU hW => ⟨rfl, hU, hh_58.2.1, hG.step hW hU hh_58.1, (hstr404.moved hW.alike).kept hh_58.1.2.1, hg_r0, jP.nil, by first | omega | rfl | assumption | decide | exact Or.inl rfl | exact Or.inr rfl | (simp only; omega)⟩⟩ rfl rfl hl.1 rfl (lv_room (Nat.le_of_ble_eq_true rfl)) dX13_print_117 ⟨Nat.zero_le _, Nat.zero_le _⟩) hh_58.1 (fun q _ h => h) (fun q h => h) (fun u_60 t_60 H_60 locs_60 ht_60 hvm_60 hr_61 hb_60 hz_60 hk_60 hS_60 => ?_)
        rw [ht_60] at hb_60
        obtain ⟨hb_601, hb_602, hb_603, hb_604, hb_605⟩ := hb_60
        have hh_60 : jSt (dC, dI) B base G0 G0 EX13_print s.heap 0 0 [(r0, 15, 49, .int qv_58), (r0, 15, 48, .ref zm), (r0, 15, 0, .ref zs), (r0, 15, 1, .ref zn), (r0, 15, 2, .ref za), (r0, 15, 3, .ref zb), (r0, 15, 4, .ref zc), (r0, 15, 14, .ref zy)] [(zm, 164, 100, ca 1, gm_58), (zs, 150, 120000, ca 1, C.s), (zn, 151, 120000, ca 1, C.n), (za, 152, 120000, ca 1, C.a), (zb, 153, 120000, ca 1, C.b), (zc, 154, 120000, ca 1, C.c), (zy, 165, 16, ca 1, C.y)] [] H_60 locs_60 := ((hh_58.call hb_601 hb_602 hb_603 hb_604 hS_60 rfl (L1 := [(r0, 15, 49, .int qv_58), (r0, 15, 48, .ref zm), (r0, 15, 0, .ref zs), (r0, 15, 1, .ref zn), (r0, 15, 2, .ref za), (r0, 15, 3, .ref zb), (r0, 15, 4, .ref zc), (r0, 15, 14, .ref zy)]) [0, 1, 2, 3, 4, 5, 6, 7] rfl rfl (M1 := [(zm, 164, 100, ca 1, gm_58), (zs, 150, 120000, ca 1, C.s), (zn, 151, 120000, ca 1, C.n), (za, 152, 120000, ca 1, C.a), (zb, 153, 120000, ca 1, C.b), (zc, 154, 120000, ca 1, C.c), (zy, 165, 16, ca 1, C.y)]) [0, 1, 2, 3, 4, 5, 6] rfl rfl (I1 := []) [] rfl rfl).more hb_605)
        clear hh_58 ht_60 hvm_60 hz_60 hk_60 hS_60 hb_601 hb_602 hb_603 hb_604 hb_605
        refine lv_aload_n hx hb dX13_print_120 rfl (lv_at hl 0 rfl) ?_
        refine lv_aload_n hx hb dX13_print_121 rfl (lv_at hl 0 rfl) ?_
        refine j7_read hx hb hown hK (C := RX13) (T := TX13) (N := 50) rfl hly_15_3 hlk_22 (hh_60.at 5 rfl) dX13_print_122 ?_
        refine lv_iload_n hx hb dX13_print_125 rfl (lv_at hl 1 rfl) ?_
        refine j7_ialdM hx hb hK hh_60 hB153 1 rfl (by decide) hg_zb (x := a1.toInt) (rfl) (by omega) (j := 4) rfl dX13_print_126 (fun z_62 ez_62 (hz_62 : True) => ?_)
        have hqz_62 : z_62.toInt = jSo C.b (a1.toInt) := by unfold jSo; rw [ez_62]
        refine lv_aload_n hx hb dX13_print_127 rfl (lv_at hl 0 rfl) ?_
        refine j7_read hx hb hown hK (C := RX13) (T := TX13) (N := 50) rfl hly_15_0 hlk_12 (hh_60.at 2 rfl) dX13_print_128 ?_
        refine lv_aload_n hx hb dX13_print_131 rfl (lv_at hl 0 rfl) ?_
        refine j7_read hx hb hown hK (C := RX13) (T := TX13) (N := 50) rfl hly_15_3 hlk_22 (hh_60.at 5 rfl) dX13_print_132 ?_
        refine lv_iload_n hx hb dX13_print_135 rfl (lv_at hl 1 rfl) ?_
        refine j7_ialdM hx hb hK hh_60 hB153 1 rfl (by decide) hg_zb (x := a1.toInt) (rfl) (by omega) (j := 4) rfl dX13_print_136 (fun z_63 ez_63 (hz_63 : True) => ?_)
        have hqz_63 : z_63.toInt = jSo C.b (a1.toInt) := by unfold jSo; rw [ez_63]
        refine j7_ialdM hx hb hK hh_60 hB150 1 rfl (by decide) hg_zs (x := z_63.toInt) (rfl) (by omega) (j := 1) rfl dX13_print_137 (fun z_64 ez_64 (hz_64 : True) => ?_)
        have hqz_64 : z_64.toInt = jSo C.s (z_63.toInt) := by unfold jSo; rw [ez_64]
        have C146 : ∀ (w0_65 : Int32) (H_65 : Heap) (locs_65 : List Loc), jSt (dC, dI) B base G0 G0 EX13_print s.heap 0 0 [(r0, 15, 49, .int qv_58), (r0, 15, 48, .ref zm), (r0, 15, 0, .ref zs), (r0, 15, 1, .ref zn), (r0, 15, 2, .ref za), (r0, 15, 3, .ref zb), (r0, 15, 4, .ref zc), (r0, 15, 14, .ref zy)] [(zm, 164, 100, ca 1, gm_58), (zs, 150, 120000, ca 1, C.s), (zn, 151, 120000, ca 1, C.n), (za, 152, 120000, ca 1, C.a), (zb, 153, 120000, ca 1, C.b), (zc, 154, 120000, ca 1, C.c), (zy, 165, 16, ca 1, C.y)] [] H_65 locs_65 → (w0_65 = 0 ∨ w0_65 = 1) → (True) → ∀ ls : Array Slot, lv_has ls 4 [(0, .ref r0), (1, .int a1), (2, .int a2), (3, .int z_1)] → W p l e R s m ([.ref r0, .int a1, .int a2] : List Value).toArray below meth c H_65 locs_65 0 0 Q (F0 m 146 ls [.int w0_65, .int z_62, .ref r0]) := by
          intro w0_65 H_65 locs_65 hh_65 hb_w0_65 hi_65 ls hl
          have hb_w0_65' := jb_01 hb_w0_65
          refine lv_iload_n hx hb dX13_print_146 rfl (lv_at hl 2 rfl) ?_
          refine va_callv (A0 := jA base) (H0 := s.heap) (va_runV (As := [.int z_62, .int w0_65, .int a2]) (rest := []) ⟨hx, hb, hml, hown, hts⟩ (ihS (d - 1) (by omega) G0 H_65 r0 z_62 w0_65 a2 qv_58 zm zs zn za zb zc zy M gm_58 C) (cwV 3 hts (jgV (jWr_71 _ (List.mem_of_getElem? (i := 9) rfl)) (jWr_71 _ (List.mem_of_getElem? (i := 10) rfl)) (jWr_71 _ (List.mem_of_getElem? (i := 11) rfl)) (jWr_12 _ (List.mem_of_getElem? (i := 12) rfl)) (jWr_72 _ (List.mem_of_getElem? (i := 8) rfl))) rfl rfl rfl (by decide +kernel) ⟨by rw [← hR]; show (3 * (d - 1) + 11) + 1 ≤ 3 * d + 10; omega, by rw [← hR]; show 8 + (5 + 11) + (90 * (d - 1) + 1040) ≤ 90 * d + 1000; omega⟩) ⟨fun a U g mk q => by obtain ⟨q0, q1, q2, qK, q10, q11, q12, q13, q14, q15, q16, q17, q18, q19, q20, q21, q22⟩ := q; exact ⟨q0, q1, q2, jG.calling g mk a qK, q10, q11, q12, q13, q14, q15, q16, q17, q18, q19, q20, q21, q22⟩, hh_65.recv (C := RX13) (T := TX13) (N := 50) hB15 rfl (by decide) hg_r0 hK, fun U hU hW => ⟨rfl, hU, hh_65.2.1, hG.step hW hU hh_65.1, hg_r0, (hb_w0_65), (hz_a2), hg_zm, hg_zs, hg_zn, hg_za, hg_zb, hg_zc, hg_zy, (hh_65.2.2.1.sub (L1 := [(r0, 15, 49, .int qv_58), (r0, 15, 48, .ref zm), (r0, 15, 0, .ref zs), (r0, 15, 1, .ref zn), (r0, 15, 2, .ref za), (r0, 15, 3, .ref zb), (r0, 15, 4, .ref zc), (r0, 15, 14, .ref zy)]) [0, 1, 2, 3, 4, 5, 6, 7] rfl), (hh_65.2.2.2.2.2.2.2.1.sub (L1 := [(zm, 164, 100, ca 1, gm_58), (zs, 150, 120000, ca 1, C.s), (zn, 151, 120000, ca 1, C.n), (za, 152, 120000, ca 1, C.a), (zb, 153, 120000, ca 1, C.b), (zc, 154, 120000, ca 1, C.c), (zy, 165, 16, ca 1, C.y)]) [0, 1, 2, 3, 4, 5, 6] rfl), ⟨(by first | assumption | (rw [hr_59_0, hqz_62]; exact h2.2.1) | (rw [hr_59_0]; exact hp1.eq hr_59_1) | omega), (by first | assumption | (rw [hr_59_0, hqz_62]; exact h2.2.1) | (rw [hr_59_0]; exact hp1.eq hr_59_1) | omega), (by first | omega | rfl | assumption | (rw [hr_59_0, hqz_62]; exact h2.2.1) | (rw [hr_59_0]; exact hp1.eq hr_59_1)), (by first | omega | rfl | assumption | (rw [hr_59_0, hqz_62]; exact h2.2.1) | (rw [hr_59_0]; exact hp1.eq hr_59_1)), (by first | omega | rfl | assumption | (rw [hr_59_0, hqz_62]; exact h2.2.1) | (rw [hr_59_0]; exact hp1.eq hr_59_1)), (by first | omega | rfl | assumption | (rw [hr_59_0, hqz_62]; exact h2.2.1) | (rw [hr_59_0]; exact hp1.eq hr_59_1)), (by first | omega | rfl | assumption | (rw [hr_59_0, hqz_62]; exact h2.2.1) | (rw [hr_59_0]; exact hp1.eq hr_59_1))⟩⟩⟩ rfl rfl hl.1 rfl (lv_room (Nat.le_of_ble_eq_true rfl)) dX13_print_147 ⟨Nat.zero_le _, Nat.zero_le _⟩) hh_65.1 (fun q _ h => h) (fun q h => h) (fun u_66 t_66 H_66 locs_66 ht_66 hvm_66 hr_67 hb_66 hz_66 hk_66 hS_66 => ?_)
          obtain ⟨qv_66, gm_66⟩ := u_66
          rw [ht_66] at hb_66
          obtain ⟨⟨hb_661, hb_662, hb_663, hb_664, hb_665⟩, hb_666⟩ := hb_66
          have hh_66 : jSt (dC, dI) B base G0 G0 EX13_print s.heap 0 0 [(r0, 15, 49, .int qv_66), (r0, 15, 48, .ref zm), (r0, 15, 0, .ref zs), (r0, 15, 1, .ref zn), (r0, 15, 2, .ref za), (r0, 15, 3, .ref zb), (r0, 15, 4, .ref zc), (r0, 15, 14, .ref zy)] [(zm, 164, 100, ca 1, gm_66), (zs, 150, 120000, ca 1, C.s), (zn, 151, 120000, ca 1, C.n), (za, 152, 120000, ca 1, C.a), (zb, 153, 120000, ca 1, C.b), (zc, 154, 120000, ca 1, C.c), (zy, 165, 16, ca 1, C.y)] [] H_66 locs_66 := ((hh_65.call hb_661 hb_662 hb_663 hb_664 hS_66 rfl (L1 := [(r0, 15, 48, .ref zm), (r0, 15, 0, .ref zs), (r0, 15, 1, .ref zn), (r0, 15, 2, .ref za), (r0, 15, 3, .ref zb), (r0, 15, 4, .ref zc), (r0, 15, 14, .ref zy)]) [1, 2, 3, 4, 5, 6, 7] rfl rfl (M1 := [(zs, 150, 120000, ca 1, C.s), (zn, 151, 120000, ca 1, C.n), (za, 152, 120000, ca 1, C.a), (zb, 153, 120000, ca 1, C.b), (zc, 154, 120000, ca 1, C.c), (zy, 165, 16, ca 1, C.y)]) [1, 2, 3, 4, 5, 6] rfl rfl (I1 := []) [] rfl rfl).more hb_665).moreM hb_666
          clear hh_65 ht_66 hvm_66 hz_66 hk_66 hS_66 hb_661 hb_662 hb_663 hb_664 hb_665
          clear hb_666
          try simp only at hr_67
          obtain ⟨hr_67_0, hr_67_1⟩ := hr_67
          refine lv_goto (tgt := 365) hx hb dX13_print_150 (by decide) ?_
          rw [hQ]
          exact W.vret hx hb hr (fun t ht hW => ⟨⟨(qv_66, gm_66), rfl, by (try dsimp only); refine ⟨by omega, ?_⟩; have h8 := hr_67_1; rw [hr_59_0] at h8; exact hr_59_1.tr h8, ⟨hh_66.rt (M1 := [(r0, 15, 49, .int qv_66)]) [0] rfl ht, by rw [ht]; exact hh_66.2.2.2.2.2.2.2.1.sub [0] rfl⟩⟩, by rw [ht]; try exact hh_66.1.1, fun q h9 hq => by rw [ht]; try exact hh_66.1.2.1 q h9 hq⟩) hh_66.1.2.2 dX13_print_365
        refine lv_if_ne (tgt := 145) hx hb dX13_print_138 (by decide) (fun c_68 => ?_) (fun c_68 => ?_)
        · skip
          have c_68' : z_64.toInt ≠ 0 := jb_ne (rfl) ((by decide)) c_68
          refine lv_iconst (v := 0) hx hb dX13_print_145 (by decide) ?_
          exact C146 0 _ _ hh_60 (Or.inl rfl) (trivial) _ (lv_sub hl [0, 1, 2, 3] rfl)
        · skip
          have c_68' : z_64.toInt = 0 := jb_ne_n (rfl) ((by decide)) c_68
          refine lv_iconst (v := 1) hx hb dX13_print_141 (by decide) ?_
          refine lv_goto (tgt := 146) hx hb dX13_print_142 (by decide) ?_
          exact C146 1 _ _ hh_60 (Or.inr rfl) (trivial) _ (lv_sub hl [0, 1, 2, 3] rfl)
      have C104 : ∀ (H_69 : Heap) (locs_69 : List Loc), jSt (dC, dI) B base G0 G0 EX13_print s.heap 0 0 [(r0, 15, 49, .int pv), (r0, 15, 48, .ref zm), (r0, 15, 0, .ref zs), (r0, 15, 1, .ref zn), (r0, 15, 2, .ref za), (r0, 15, 3, .ref zb), (r0, 15, 4, .ref zc), (r0, 15, 14, .ref zy)] [(zm, 164, 100, ca 1, fm), (zs, 150, 120000, ca 1, C.s), (zn, 151, 120000, ca 1, C.n), (za, 152, 120000, ca 1, C.a), (zb, 153, 120000, ca 1, C.b), (zc, 154, 120000, ca 1, C.c), (zy, 165, 16, ca 1, C.y)] [] H_69 locs_69 → (True) → ∀ ls : Array Slot, lv_has ls 4 [(0, .ref r0), (1, .int a1), (2, .int a2), (3, .int z_1)] → W p l e R s m ([.ref r0, .int a1, .int a2] : List Value).toArray below meth c H_69 locs_69 0 0 Q (F0 m 104 ls [.int z_54, .ref r0]) := by
        intro  H_69 locs_69 hh_69  hi_69 ls hl
        refine lv_iconst (v := 1) hx hb dX13_print_104 (by decide) ?_
        refine lv_goto (tgt := 109) hx hb dX13_print_105 (by decide) ?_
        exact C109 1 _ _ hh_69 (Or.inr rfl) (trivial) _ (lv_sub hl [0, 1, 2, 3] rfl)
      refine lv_if_eq (tgt := 104) hx hb dX13_print_86 (by decide) (fun c_70 => ?_) (fun c_70 => ?_)
      · skip
        have c_70' : z_56.toInt = 0 := jb_eq (rfl) ((by decide)) c_70
        exact C104  _ _ hh (trivial) _ (lv_sub hl [1, 2, 3, 0] rfl)
      · skip
        have c_70' : z_56.toInt ≠ 0 := jb_eq_n (rfl) ((by decide)) c_70
        refine lv_aload_n hx hb dX13_print_89 rfl (lv_at hl 1 rfl) ?_
        refine j7_read hx hb hown hK (C := RX13) (T := TX13) (N := 50) rfl hly_15_0 hlk_12 (hh.at 2 rfl) dX13_print_90 ?_
        refine lv_aload_n hx hb dX13_print_93 rfl (lv_at hl 1 rfl) ?_
        refine j7_read hx hb hown hK (C := RX13) (T := TX13) (N := 50) rfl hly_15_2 hlk_19 (hh.at 4 rfl) dX13_print_94 ?_
        refine lv_iload_n hx hb dX13_print_97 rfl (lv_at hl 2 rfl) ?_
        refine j7_ialdM hx hb hK hh hB152 1 rfl (by decide) hg_za (x := a1.toInt) (rfl) (by omega) (j := 3) rfl dX13_print_98 (fun z_71 ez_71 (hz_71 : True) => ?_)
        have hqz_71 : z_71.toInt = jSo C.a (a1.toInt) := by unfold jSo; rw [ez_71]
        refine j7_ialdM hx hb hK hh hB150 1 rfl (by decide) hg_zs (x := z_71.toInt) (rfl) (by omega) (j := 1) rfl dX13_print_99 (fun z_72 ez_72 (hz_72 : True) => ?_)
        have hqz_72 : z_72.toInt = jSo C.s (z_71.toInt) := by unfold jSo; rw [ez_72]
        refine lv_iconst (v := 2) hx hb dX13_print_100 (by decide) ?_
        refine lv_icmp_ne (tgt := 108) hx hb dX13_print_101 (by decide) (fun c_73 => ?_) (fun c_73 => ?_)
        · skip
          have c_73' : z_72.toInt ≠ 2 := jb_ne (rfl) ((by decide)) c_73
          refine lv_iconst (v := 0) hx hb dX13_print_108 (by decide) ?_
          exact C109 0 _ _ hh (Or.inl rfl) (trivial) _ (lv_sub hl [1, 2, 3, 0] rfl)
        · skip
          have c_73' : z_72.toInt = 2 := jb_ne_n (rfl) ((by decide)) c_73
          exact C104  _ _ hh (trivial) _ (lv_sub hl [1, 2, 3, 0] rfl)
  · skip
    have c_2' : z_1.toInt = 0 := jb_ne_n (rfl) ((by decide)) c_2
    have h2 := hp0.two (by omega)
    have h2a := h2.2.2.1
    have h2b := h2.2.2.2
    refine lv_aload_n hx hb dX13_print_11 rfl (lv_at hl 1 rfl) ?_
    refine lv_aload_n hx hb dX13_print_12 rfl (lv_at hl 1 rfl) ?_
    refine j7_read hx hb hown hK (C := RX13) (T := TX13) (N := 50) rfl hly_15_2 hlk_19 (hh.at 4 rfl) dX13_print_13 ?_
    refine lv_iload_n hx hb dX13_print_16 rfl (lv_at hl 2 rfl) ?_
    refine j7_ialdM hx hb hK hh hB152 1 rfl (by decide) hg_za (x := a1.toInt) (rfl) (by omega) (j := 3) rfl dX13_print_17 (fun z_74 ez_74 (hz_74 : True) => ?_)
    have hqz_74 : z_74.toInt = jSo C.a (a1.toInt) := by unfold jSo; rw [ez_74]
    refine lv_aload_n hx hb dX13_print_18 rfl (lv_at hl 1 rfl) ?_
    refine j7_read hx hb hown hK (C := RX13) (T := TX13) (N := 50) rfl hly_15_0 hlk_12 (hh.at 2 rfl) dX13_print_19 ?_
    refine lv_aload_n hx hb dX13_print_22 rfl (lv_at hl 1 rfl) ?_
    refine j7_read hx hb hown hK (C := RX13) (T := TX13) (N := 50) rfl hly_15_2 hlk_19 (hh.at 4 rfl) dX13_print_23 ?_
    refine lv_iload_n hx hb dX13_print_26 rfl (lv_at hl 2 rfl) ?_
    refine j7_ialdM hx hb hK hh hB152 1 rfl (by decide) hg_za (x := a1.toInt) (rfl) (by omega) (j := 3) rfl dX13_print_27 (fun z_75 ez_75 (hz_75 : True) => ?_)
    have hqz_75 : z_75.toInt = jSo C.a (a1.toInt) := by unfold jSo; rw [ez_75]
    refine j7_ialdM hx hb hK hh hB150 1 rfl (by decide) hg_zs (x := z_75.toInt) (rfl) (by omega) (j := 1) rfl dX13_print_28 (fun z_76 ez_76 (hz_76 : True) => ?_)
    have hqz_76 : z_76.toInt = jSo C.s (z_75.toInt) := by unfold jSo; rw [ez_76]
    have C37 : ∀ (w0_77 : Int32) (H_77 : Heap) (locs_77 : List Loc), jSt (dC, dI) B base G0 G0 EX13_print s.heap 0 0 [(r0, 15, 49, .int pv), (r0, 15, 48, .ref zm), (r0, 15, 0, .ref zs), (r0, 15, 1, .ref zn), (r0, 15, 2, .ref za), (r0, 15, 3, .ref zb), (r0, 15, 4, .ref zc), (r0, 15, 14, .ref zy)] [(zm, 164, 100, ca 1, fm), (zs, 150, 120000, ca 1, C.s), (zn, 151, 120000, ca 1, C.n), (za, 152, 120000, ca 1, C.a), (zb, 153, 120000, ca 1, C.b), (zc, 154, 120000, ca 1, C.c), (zy, 165, 16, ca 1, C.y)] [] H_77 locs_77 → (w0_77 = 0 ∨ w0_77 = 1) → (True) → ∀ ls : Array Slot, lv_has ls 4 [(0, .ref r0), (1, .int a1), (2, .int a2), (3, .int z_1)] → W p l e R s m ([.ref r0, .int a1, .int a2] : List Value).toArray below meth c H_77 locs_77 0 0 Q (F0 m 37 ls [.int w0_77, .int z_74, .ref r0]) := by
      intro w0_77 H_77 locs_77 hh_77 hb_w0_77 hi_77 ls hl
      have hb_w0_77' := jb_01 hb_w0_77
      refine lv_iconst (v := 0) hx hb dX13_print_37 (by decide) ?_
      refine va_callv (A0 := jA base) (H0 := s.heap) (va_runV (As := [.int z_74, .int w0_77, .int 0]) (rest := []) ⟨hx, hb, hml, hown, hts⟩ (ihS (d - 1) (by omega) G0 H_77 r0 z_74 w0_77 0 pv zm zs zn za zb zc zy M fm C) (cwV 3 hts (jgV (jWr_71 _ (List.mem_of_getElem? (i := 9) rfl)) (jWr_71 _ (List.mem_of_getElem? (i := 10) rfl)) (jWr_71 _ (List.mem_of_getElem? (i := 11) rfl)) (jWr_12 _ (List.mem_of_getElem? (i := 12) rfl)) (jWr_72 _ (List.mem_of_getElem? (i := 8) rfl))) rfl rfl rfl (by decide +kernel) ⟨by rw [← hR]; show (3 * (d - 1) + 11) + 1 ≤ 3 * d + 10; omega, by rw [← hR]; show 8 + (5 + 11) + (90 * (d - 1) + 1040) ≤ 90 * d + 1000; omega⟩) ⟨fun a U g mk q => by obtain ⟨q0, q1, q2, qK, q10, q11, q12, q13, q14, q15, q16, q17, q18, q19, q20, q21, q22⟩ := q; exact ⟨q0, q1, q2, jG.calling g mk a qK, q10, q11, q12, q13, q14, q15, q16, q17, q18, q19, q20, q21, q22⟩, hh_77.recv (C := RX13) (T := TX13) (N := 50) hB15 rfl (by decide) hg_r0 hK, fun U hU hW => ⟨rfl, hU, hh_77.2.1, hG.step hW hU hh_77.1, hg_r0, (hb_w0_77), (Or.inl rfl), hg_zm, hg_zs, hg_zn, hg_za, hg_zb, hg_zc, hg_zy, (hh_77.2.2.1.sub (L1 := [(r0, 15, 49, .int pv), (r0, 15, 48, .ref zm), (r0, 15, 0, .ref zs), (r0, 15, 1, .ref zn), (r0, 15, 2, .ref za), (r0, 15, 3, .ref zb), (r0, 15, 4, .ref zc), (r0, 15, 14, .ref zy)]) [0, 1, 2, 3, 4, 5, 6, 7] rfl), (hh_77.2.2.2.2.2.2.2.1.sub (L1 := [(zm, 164, 100, ca 1, fm), (zs, 150, 120000, ca 1, C.s), (zn, 151, 120000, ca 1, C.n), (za, 152, 120000, ca 1, C.a), (zb, 153, 120000, ca 1, C.b), (zc, 154, 120000, ca 1, C.c), (zy, 165, 16, ca 1, C.y)]) [0, 1, 2, 3, 4, 5, 6] rfl), ⟨(by first | assumption | (rw [hqz_74]; exact h2.1) | exact hp1 | omega), (by first | assumption | (rw [hqz_74]; exact h2.1) | exact hp1 | omega), (by first | omega | rfl | assumption | (rw [hqz_74]; exact h2.1) | exact hp1), (by first | omega | rfl | assumption | (rw [hqz_74]; exact h2.1) | exact hp1), (by first | omega | rfl | assumption | (rw [hqz_74]; exact h2.1) | exact hp1), (by first | omega | rfl | assumption | (rw [hqz_74]; exact h2.1) | exact hp1), (by first | omega | rfl | assumption | (rw [hqz_74]; exact h2.1) | exact hp1)⟩⟩⟩ rfl rfl hl.1 rfl (lv_room (Nat.le_of_ble_eq_true rfl)) dX13_print_38 ⟨Nat.zero_le _, Nat.zero_le _⟩) hh_77.1 (fun q _ h => h) (fun q h => h) (fun u_78 t_78 H_78 locs_78 ht_78 hvm_78 hr_79 hb_78 hz_78 hk_78 hS_78 => ?_)
      obtain ⟨qv_78, gm_78⟩ := u_78
      rw [ht_78] at hb_78
      obtain ⟨⟨hb_781, hb_782, hb_783, hb_784, hb_785⟩, hb_786⟩ := hb_78
      have hh_78 : jSt (dC, dI) B base G0 G0 EX13_print s.heap 0 0 [(r0, 15, 49, .int qv_78), (r0, 15, 48, .ref zm), (r0, 15, 0, .ref zs), (r0, 15, 1, .ref zn), (r0, 15, 2, .ref za), (r0, 15, 3, .ref zb), (r0, 15, 4, .ref zc), (r0, 15, 14, .ref zy)] [(zm, 164, 100, ca 1, gm_78), (zs, 150, 120000, ca 1, C.s), (zn, 151, 120000, ca 1, C.n), (za, 152, 120000, ca 1, C.a), (zb, 153, 120000, ca 1, C.b), (zc, 154, 120000, ca 1, C.c), (zy, 165, 16, ca 1, C.y)] [] H_78 locs_78 := ((hh_77.call hb_781 hb_782 hb_783 hb_784 hS_78 rfl (L1 := [(r0, 15, 48, .ref zm), (r0, 15, 0, .ref zs), (r0, 15, 1, .ref zn), (r0, 15, 2, .ref za), (r0, 15, 3, .ref zb), (r0, 15, 4, .ref zc), (r0, 15, 14, .ref zy)]) [1, 2, 3, 4, 5, 6, 7] rfl rfl (M1 := [(zs, 150, 120000, ca 1, C.s), (zn, 151, 120000, ca 1, C.n), (za, 152, 120000, ca 1, C.a), (zb, 153, 120000, ca 1, C.b), (zc, 154, 120000, ca 1, C.c), (zy, 165, 16, ca 1, C.y)]) [1, 2, 3, 4, 5, 6] rfl rfl (I1 := []) [] rfl rfl).more hb_785).moreM hb_786
      clear hh_77 ht_78 hvm_78 hz_78 hk_78 hS_78 hb_781 hb_782 hb_783 hb_784 hb_785
      clear hb_786
      try simp only at hr_79
      obtain ⟨hr_79_0, hr_79_1⟩ := hr_79
      refine lv_aload_n hx hb dX13_print_41 rfl (lv_at hl 0 rfl) ?_
      refine j_ldcSw hx hb hown rstr398 dX13_print_42 ?_
      refine va_callv (A0 := jA base) (H0 := s.heap) (va_runV (As := [.ref str398]) (rest := []) ⟨hx, hb, hml, hown, hts⟩ (uX13_words l dC dI ca base B hB hAp hB15 hB101 G0 H_78 r0 str398 4) (cwV 1 hts (jgV (jWr_70 _ (List.mem_of_getElem? (i := 20) rfl)) (jWr_70 _ (List.mem_of_getElem? (i := 21) rfl)) (jWr_70 _ (List.mem_of_getElem? (i := 22) rfl)) (jWr_12 _ (List.mem_of_getElem? (i := 12) rfl)) (jWr_70 _ (List.mem_of_getElem? (i := 23) rfl))) rfl rfl rfl (by decide +kernel) ⟨by rw [← hR]; show (4) + 1 ≤ 3 * d + 10; omega, by rw [← hR]; show 8 + (3 + 11) + (141) ≤ 90 * d + 1000; omega⟩) ⟨fun a U g mk q => by obtain ⟨q0, q1, q2, qK, q10, q11, q12, q13⟩ := q; exact ⟨q0, q1, q2, jG.calling g mk a qK, (q10.moved (Vm.Alike.refl U.vm)), q11, q12, q13⟩, hh_78.recv (C := RX13) (T := TX13) (N := 50) hB15 rfl (by decide) hg_r0 hK, fun U hU hW => ⟨rfl, hU, hh_78.2.1, hG.step hW hU hh_78.1, (hstr398.moved hW.alike).kept hh_78.1.2.1, hg_r0, jP.nil, by first | omega | rfl | assumption | decide | exact Or.inl rfl | exact Or.inr rfl | (simp only; omega)⟩⟩ rfl rfl hl.1 rfl (lv_room (Nat.le_of_ble_eq_true rfl)) dX13_print_45 ⟨Nat.zero_le _, Nat.zero_le _⟩) hh_78.1 (fun q _ h => h) (fun q h => h) (fun u_80 t_80 H_80 locs_80 ht_80 hvm_80 hr_81 hb_80 hz_80 hk_80 hS_80 => ?_)
      rw [ht_80] at hb_80
      obtain ⟨hb_801, hb_802, hb_803, hb_804, hb_805⟩ := hb_80
      have hh_80 : jSt (dC, dI) B base G0 G0 EX13_print s.heap 0 0 [(r0, 15, 49, .int qv_78), (r0, 15, 48, .ref zm), (r0, 15, 0, .ref zs), (r0, 15, 1, .ref zn), (r0, 15, 2, .ref za), (r0, 15, 3, .ref zb), (r0, 15, 4, .ref zc), (r0, 15, 14, .ref zy)] [(zm, 164, 100, ca 1, gm_78), (zs, 150, 120000, ca 1, C.s), (zn, 151, 120000, ca 1, C.n), (za, 152, 120000, ca 1, C.a), (zb, 153, 120000, ca 1, C.b), (zc, 154, 120000, ca 1, C.c), (zy, 165, 16, ca 1, C.y)] [] H_80 locs_80 := ((hh_78.call hb_801 hb_802 hb_803 hb_804 hS_80 rfl (L1 := [(r0, 15, 49, .int qv_78), (r0, 15, 48, .ref zm), (r0, 15, 0, .ref zs), (r0, 15, 1, .ref zn), (r0, 15, 2, .ref za), (r0, 15, 3, .ref zb), (r0, 15, 4, .ref zc), (r0, 15, 14, .ref zy)]) [0, 1, 2, 3, 4, 5, 6, 7] rfl rfl (M1 := [(zm, 164, 100, ca 1, gm_78), (zs, 150, 120000, ca 1, C.s), (zn, 151, 120000, ca 1, C.n), (za, 152, 120000, ca 1, C.a), (zb, 153, 120000, ca 1, C.b), (zc, 154, 120000, ca 1, C.c), (zy, 165, 16, ca 1, C.y)]) [0, 1, 2, 3, 4, 5, 6] rfl rfl (I1 := []) [] rfl rfl).more hb_805)
      clear hh_78 ht_80 hvm_80 hz_80 hk_80 hS_80 hb_801 hb_802 hb_803 hb_804 hb_805
      refine lv_aload_n hx hb dX13_print_48 rfl (lv_at hl 0 rfl) ?_
      refine lv_aload_n hx hb dX13_print_49 rfl (lv_at hl 0 rfl) ?_
      refine j7_read hx hb hown hK (C := RX13) (T := TX13) (N := 50) rfl hly_15_3 hlk_22 (hh_80.at 5 rfl) dX13_print_50 ?_
      refine lv_iload_n hx hb dX13_print_53 rfl (lv_at hl 1 rfl) ?_
      refine j7_ialdM hx hb hK hh_80 hB153 1 rfl (by decide) hg_zb (x := a1.toInt) (rfl) (by omega) (j := 4) rfl dX13_print_54 (fun z_82 ez_82 (hz_82 : True) => ?_)
      have hqz_82 : z_82.toInt = jSo C.b (a1.toInt) := by unfold jSo; rw [ez_82]
      refine lv_iconst (v := 0) hx hb dX13_print_55 (by decide) ?_
      refine lv_iload_n hx hb dX13_print_56 rfl (lv_at hl 2 rfl) ?_
      refine va_callv (A0 := jA base) (H0 := s.heap) (va_runV (As := [.int z_82, .int 0, .int a2]) (rest := []) ⟨hx, hb, hml, hown, hts⟩ (ihS (d - 1) (by omega) G0 H_80 r0 z_82 0 a2 qv_78 zm zs zn za zb zc zy M gm_78 C) (cwV 3 hts (jgV (jWr_71 _ (List.mem_of_getElem? (i := 9) rfl)) (jWr_71 _ (List.mem_of_getElem? (i := 10) rfl)) (jWr_71 _ (List.mem_of_getElem? (i := 11) rfl)) (jWr_12 _ (List.mem_of_getElem? (i := 12) rfl)) (jWr_72 _ (List.mem_of_getElem? (i := 8) rfl))) rfl rfl rfl (by decide +kernel) ⟨by rw [← hR]; show (3 * (d - 1) + 11) + 1 ≤ 3 * d + 10; omega, by rw [← hR]; show 8 + (5 + 11) + (90 * (d - 1) + 1040) ≤ 90 * d + 1000; omega⟩) ⟨fun a U g mk q => by obtain ⟨q0, q1, q2, qK, q10, q11, q12, q13, q14, q15, q16, q17, q18, q19, q20, q21, q22⟩ := q; exact ⟨q0, q1, q2, jG.calling g mk a qK, q10, q11, q12, q13, q14, q15, q16, q17, q18, q19, q20, q21, q22⟩, hh_80.recv (C := RX13) (T := TX13) (N := 50) hB15 rfl (by decide) hg_r0 hK, fun U hU hW => ⟨rfl, hU, hh_80.2.1, hG.step hW hU hh_80.1, hg_r0, (Or.inl rfl), (hz_a2), hg_zm, hg_zs, hg_zn, hg_za, hg_zb, hg_zc, hg_zy, (hh_80.2.2.1.sub (L1 := [(r0, 15, 49, .int qv_78), (r0, 15, 48, .ref zm), (r0, 15, 0, .ref zs), (r0, 15, 1, .ref zn), (r0, 15, 2, .ref za), (r0, 15, 3, .ref zb), (r0, 15, 4, .ref zc), (r0, 15, 14, .ref zy)]) [0, 1, 2, 3, 4, 5, 6, 7] rfl), (hh_80.2.2.2.2.2.2.2.1.sub (L1 := [(zm, 164, 100, ca 1, gm_78), (zs, 150, 120000, ca 1, C.s), (zn, 151, 120000, ca 1, C.n), (za, 152, 120000, ca 1, C.a), (zb, 153, 120000, ca 1, C.b), (zc, 154, 120000, ca 1, C.c), (zy, 165, 16, ca 1, C.y)]) [0, 1, 2, 3, 4, 5, 6] rfl), ⟨(by first | assumption | (rw [hr_79_0, hqz_82]; exact h2.2.1) | (rw [hr_79_0]; exact hp1.eq hr_79_1) | omega), (by first | assumption | (rw [hr_79_0, hqz_82]; exact h2.2.1) | (rw [hr_79_0]; exact hp1.eq hr_79_1) | omega), (by first | omega | rfl | assumption | (rw [hr_79_0, hqz_82]; exact h2.2.1) | (rw [hr_79_0]; exact hp1.eq hr_79_1)), (by first | omega | rfl | assumption | (rw [hr_79_0, hqz_82]; exact h2.2.1) | (rw [hr_79_0]; exact hp1.eq hr_79_1)), (by first | omega | rfl | assumption | (rw [hr_79_0, hqz_82]; exact h2.2.1) | (rw [hr_79_0]; exact hp1.eq hr_79_1)), (by first | omega | rfl | assumption | (rw [hr_79_0, hqz_82]; exact h2.2.1) | (rw [hr_79_0]; exact hp1.eq hr_79_1)), (by first | omega | rfl | assumption | (rw [hr_79_0, hqz_82]; exact h2.2.1) | (rw [hr_79_0]; exact hp1.eq hr_79_1))⟩⟩⟩ rfl rfl hl.1 rfl (lv_room (Nat.le_of_ble_eq_true rfl)) dX13_print_57 ⟨Nat.zero_le _, Nat.zero_le _⟩) hh_80.1 (fun q _ h => h) (fun q h => h) (fun u_83 t_83 H_83 locs_83 ht_83 hvm_83 hr_84 hb_83 hz_83 hk_83 hS_83 => ?_)
      obtain ⟨qv_83, gm_83⟩ := u_83
      rw [ht_83] at hb_83
      obtain ⟨⟨hb_831, hb_832, hb_833, hb_834, hb_835⟩, hb_836⟩ := hb_83
      have hh_83 : jSt (dC, dI) B base G0 G0 EX13_print s.heap 0 0 [(r0, 15, 49, .int qv_83), (r0, 15, 48, .ref zm), (r0, 15, 0, .ref zs), (r0, 15, 1, .ref zn), (r0, 15, 2, .ref za), (r0, 15, 3, .ref zb), (r0, 15, 4, .ref zc), (r0, 15, 14, .ref zy)] [(zm, 164, 100, ca 1, gm_83), (zs, 150, 120000, ca 1, C.s), (zn, 151, 120000, ca 1, C.n), (za, 152, 120000, ca 1, C.a), (zb, 153, 120000, ca 1, C.b), (zc, 154, 120000, ca 1, C.c), (zy, 165, 16, ca 1, C.y)] [] H_83 locs_83 := ((hh_80.call hb_831 hb_832 hb_833 hb_834 hS_83 rfl (L1 := [(r0, 15, 48, .ref zm), (r0, 15, 0, .ref zs), (r0, 15, 1, .ref zn), (r0, 15, 2, .ref za), (r0, 15, 3, .ref zb), (r0, 15, 4, .ref zc), (r0, 15, 14, .ref zy)]) [1, 2, 3, 4, 5, 6, 7] rfl rfl (M1 := [(zs, 150, 120000, ca 1, C.s), (zn, 151, 120000, ca 1, C.n), (za, 152, 120000, ca 1, C.a), (zb, 153, 120000, ca 1, C.b), (zc, 154, 120000, ca 1, C.c), (zy, 165, 16, ca 1, C.y)]) [1, 2, 3, 4, 5, 6] rfl rfl (I1 := []) [] rfl rfl).more hb_835).moreM hb_836
      clear hh_80 ht_83 hvm_83 hz_83 hk_83 hS_83 hb_831 hb_832 hb_833 hb_834 hb_835
      clear hb_836
      try simp only at hr_84
      obtain ⟨hr_84_0, hr_84_1⟩ := hr_84
      refine lv_goto (tgt := 365) hx hb dX13_print_60 (by decide) ?_
      rw [hQ]
      exact W.vret hx hb hr (fun t ht hW => ⟨⟨(qv_83, gm_83), rfl, by (try dsimp only); refine ⟨by omega, ?_⟩; have h8 := hr_84_1; rw [hr_79_0] at h8; exact hr_79_1.tr h8, ⟨hh_83.rt (M1 := [(r0, 15, 49, .int qv_83)]) [0] rfl ht, by rw [ht]; exact hh_83.2.2.2.2.2.2.2.1.sub [0] rfl⟩⟩, by rw [ht]; try exact hh_83.1.1, fun q h9 hq => by rw [ht]; try exact hh_83.1.2.1 q h9 hq⟩) hh_83.1.2.2 dX13_print_365
    refine lv_if_ne (tgt := 36) hx hb dX13_print_29 (by decide) (fun c_85 => ?_) (fun c_85 => ?_)
    · skip
      have c_85' : z_76.toInt ≠ 0 := jb_ne (rfl) ((by decide)) c_85
      refine lv_iconst (v := 0) hx hb dX13_print_36 (by decide) ?_
      exact C37 0 _ _ hh (Or.inl rfl) (trivial) _ (lv_sub hl [1, 2, 3, 0] rfl)
    · skip
      have c_85' : z_76.toInt = 0 := jb_ne_n (rfl) ((by decide)) c_85
      refine lv_iconst (v := 1) hx hb dX13_print_32 (by decide) ?_
      refine lv_goto (tgt := 37) hx hb dX13_print_33 (by decide) ?_
      exact C37 1 _ _ hh (Or.inr rfl) (trivial) _ (lv_sub hl [1, 2, 3, 0] rfl)
theorem aX13_print (l : Launch) (dC : Nat → ClassId) (dI : Nat → Nat → Nat) (ca : Nat → ClassId) (base : Nat) (B : jF) (hB : jBok B) (hAp : jAp (dC, dI)) (hB15 : ∀ n G a H, B 15 n G a H ↔ jOb (dC, dI) 15 50 (F15 n G) a H) (hB101 : ∀ n G a H, B 101 n G a H ↔ jAr (dC, dI) (ca 1) (fun j z => True) n a H) (hB150 : ∀ n G a H, B 150 n G a H ↔ jAr (dC, dI) (ca 1) (fun j z => True) n a H) (hB151 : ∀ n G a H, B 151 n G a H ↔ jAr (dC, dI) (ca 1) (fun j z => True) n a H) (hB152 : ∀ n G a H, B 152 n G a H ↔ jAr (dC, dI) (ca 1) (fun j z => True) n a H) (hB153 : ∀ n G a H, B 153 n G a H ↔ jAr (dC, dI) (ca 1) (fun j z => True) n a H) (hB154 : ∀ n G a H, B 154 n G a H ↔ jAr (dC, dI) (ca 1) (fun j z => True) n a H) (hB155 : ∀ n G a H, B 155 n G a H ↔ jAr (dC, dI) (ca 1) (fun j z => 0 ≤ z.toInt ∧ z.toInt ≤ 11990) n a H) (hB156 : ∀ n G a H, B 156 n G a H ↔ jAr (dC, dI) (ca 1) (fun j z => 0 ≤ z.toInt ∧ z.toInt ≤ 10) n a H) (hB163 : ∀ n G a H, B 163 n G a H ↔ jAr (dC, dI) (ca 1) (fun j z => 0 ≤ z.toInt ∧ z.toInt ≤ 1599) n a H) (hB164 : ∀ n G a H, B 164 n G a H ↔ jAr (dC, dI) (ca 1) (fun j z => 0 ≤ z.toInt ∧ z.toInt ≤ 100000) n a H) (hB165 : ∀ n G a H, B 165 n G a H ↔ jAr (dC, dI) (ca 1) (fun j z => 0 ≤ z.toInt ∧ z.toInt ≤ 3) n a H) (hB166 : ∀ n G a H, B 166 n G a H ↔ jAr (dC, dI) (ca 1) (fun j z => True) n a H) : ∀ d, qX13_print l dC dI ca base B d ∧ qX13_side l dC dI ca base B d ∧ qX13_quantified l dC dI ca base B d ∧ qX13_applied l dC dI ca base B d := fun d => Nat.strongRecOn d (fun d ih => by
  have h3 : qX13_quantified l dC dI ca base B d := fun G0 H0 r0 a1 a2 pv zm zs zn za zb zc zy M fm C => uX13_quantified l dC dI ca base B hB hAp hB15 hB101 hB150 hB151 hB152 hB153 hB154 hB155 hB156 hB163 hB164 hB165 hB166 d (fun e1 h => (ih e1 h).1) G0 H0 r0 a1 a2 pv zm zs zn za zb zc zy M fm C
  have h4 : qX13_applied l dC dI ca base B d := fun G0 H0 r0 a1 pv zm zs zn za zb zc zy M fm C => uX13_applied l dC dI ca base B hB hAp hB15 hB101 hB150 hB151 hB152 hB153 hB154 hB155 hB156 hB163 hB164 hB165 hB166 d (fun e1 h => (ih e1 h).1) G0 H0 r0 a1 pv zm zs zn za zb zc zy M fm C
  have h1 : qX13_print l dC dI ca base B d := fun G0 H0 r0 a1 a2 pv zm zs zn za zb zc zy M fm C => uX13_print l dC dI ca base B hB hAp hB15 hB101 hB150 hB151 hB152 hB153 hB154 hB155 hB156 hB163 hB164 hB165 hB166 d (fun e1 h => (ih e1 h).2.1) (fun e1 h => (ih e1 h).1) h3 h4 G0 H0 r0 a1 a2 pv zm zs zn za zb zc zy M fm C
  have h2 : qX13_side l dC dI ca base B d := fun G0 H0 r0 a1 a2 a3 pv zm zs zn za zb zc zy M fm C => uX13_side l dC dI ca base B hB hAp hB15 hB101 hB150 hB151 hB152 hB153 hB154 hB155 hB156 hB163 hB164 hB165 hB166 d h1 G0 H0 r0 a1 a2 a3 pv zm zs zn za zb zc zy M fm C
  exact ⟨h1, h2, h3, h4⟩)
end
