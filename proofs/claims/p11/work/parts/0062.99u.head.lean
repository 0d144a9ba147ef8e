section
theorem dX14_headerByte_0 : decode cX14_headerByte 0 = .ok (.aload_n 0, 1) := by decide +kernel
theorem dX14_headerByte_1 : decode cX14_headerByte 1 = .ok (.dup, 1) := by decide +kernel
theorem dX14_headerByte_2 : decode cX14_headerByte 2 = .ok (.getfield 228, 3) := by decide +kernel
theorem dX14_headerByte_5 : decode cX14_headerByte 5 = .ok (.iconst 1, 1) := by decide +kernel
theorem dX14_headerByte_6 : decode cX14_headerByte 6 = .ok (.iadd, 1) := by decide +kernel
theorem dX14_headerByte_7 : decode cX14_headerByte 7 = .ok (.putfield 228, 3) := by decide +kernel
theorem dX14_headerByte_10 : decode cX14_headerByte 10 = .ok (.aload_n 0, 1) := by decide +kernel
theorem dX14_headerByte_11 : decode cX14_headerByte 11 = .ok (.getfield 228, 3) := by decide +kernel
theorem dX14_headerByte_14 : decode cX14_headerByte 14 = .ok (.sipush 200, 3) := by decide +kernel
theorem dX14_headerByte_17 : decode cX14_headerByte 17 = .ok (.if_icmp .le 5, 3) := by decide +kernel
theorem dX14_headerByte_20 : decode cX14_headerByte 20 = .ok (.iconst 0, 1) := by decide +kernel
theorem dX14_headerByte_21 : decode cX14_headerByte 21 = .ok (.ireturn, 1) := by decide +kernel
theorem dX14_headerByte_22 : decode cX14_headerByte 22 = .ok (.aload_n 0, 1) := by decide +kernel
theorem dX14_headerByte_23 : decode cX14_headerByte 23 = .ok (.getfield 231, 3) := by decide +kernel
theorem dX14_headerByte_26 : decode cX14_headerByte 26 = .ok (.ifCond .ne 77, 3) := by decide +kernel
theorem dX14_headerByte_29 : decode cX14_headerByte 29 = .ok (.aload_n 0, 1) := by decide +kernel
theorem dX14_headerByte_30 : decode cX14_headerByte 30 = .ok (.getfield 26, 3) := by decide +kernel
theorem dX14_headerByte_33 : decode cX14_headerByte 33 = .ok (.iconst 0, 1) := by decide +kernel
theorem dX14_headerByte_34 : decode cX14_headerByte 34 = .ok (.invokevirtual 234, 3) := by decide +kernel
theorem dX14_headerByte_37 : decode cX14_headerByte 37 = .ok (.aload_n 0, 1) := by decide +kernel
theorem dX14_headerByte_38 : decode cX14_headerByte 38 = .ok (.getfield 30, 3) := by decide +kernel
theorem dX14_headerByte_41 : decode cX14_headerByte 41 = .ok (.iconst 0, 1) := by decide +kernel
theorem dX14_headerByte_42 : decode cX14_headerByte 42 = .ok (.invokevirtual 234, 3) := by decide +kernel
theorem dX14_headerByte_45 : decode cX14_headerByte 45 = .ok (.iload_n 1, 1) := by decide +kernel
theorem dX14_headerByte_46 : decode cX14_headerByte 46 = .ok (.bipush 13, 2) := by decide +kernel
theorem dX14_headerByte_48 : decode cX14_headerByte 48 = .ok (.if_icmp .ne 21, 3) := by decide +kernel
theorem dX14_headerByte_51 : decode cX14_headerByte 51 = .ok (.aload_n 0, 1) := by decide +kernel
theorem dX14_headerByte_52 : decode cX14_headerByte 52 = .ok (.iconst 5, 1) := by decide +kernel
theorem dX14_headerByte_53 : decode cX14_headerByte 53 = .ok (.putfield 231, 3) := by decide +kernel
theorem dX14_headerByte_56 : decode cX14_headerByte 56 = .ok (.aload_n 0, 1) := by decide +kernel
theorem dX14_headerByte_57 : decode cX14_headerByte 57 = .ok (.getfield 33, 3) := by decide +kernel
theorem dX14_headerByte_60 : decode cX14_headerByte 60 = .ok (.ifCond .lt 7, 3) := by decide +kernel
theorem dX14_headerByte_63 : decode cX14_headerByte 63 = .ok (.iconst 1, 1) := by decide +kernel
theorem dX14_headerByte_64 : decode cX14_headerByte 64 = .ok (.goto 4, 3) := by decide +kernel
theorem dX14_headerByte_67 : decode cX14_headerByte 67 = .ok (.iconst 0, 1) := by decide +kernel
theorem dX14_headerByte_68 : decode cX14_headerByte 68 = .ok (.ireturn, 1) := by decide +kernel
theorem dX14_headerByte_69 : decode cX14_headerByte 69 = .ok (.aload_n 0, 1) := by decide +kernel
theorem dX14_headerByte_70 : decode cX14_headerByte 70 = .ok (.iconst 1, 1) := by decide +kernel
theorem dX14_headerByte_71 : decode cX14_headerByte 71 = .ok (.putfield 231, 3) := by decide +kernel
theorem dX14_headerByte_74 : decode cX14_headerByte 74 = .ok (.aload_n 0, 1) := by decide +kernel
theorem dX14_headerByte_75 : decode cX14_headerByte 75 = .ok (.getfield 26, 3) := by decide +kernel
theorem dX14_headerByte_78 : decode cX14_headerByte 78 = .ok (.iload_n 1, 1) := by decide +kernel
theorem dX14_headerByte_79 : decode cX14_headerByte 79 = .ok (.i2c, 1) := by decide +kernel
theorem dX14_headerByte_80 : decode cX14_headerByte 80 = .ok (.invokevirtual 237, 3) := by decide +kernel
theorem dX14_headerByte_83 : decode cX14_headerByte 83 = .ok (.pop, 1) := by decide +kernel
theorem dX14_headerByte_84 : decode cX14_headerByte 84 = .ok (.iload_n 1, 1) := by decide +kernel
theorem dX14_headerByte_85 : decode cX14_headerByte 85 = .ok (.invokestatic 241, 3) := by decide +kernel
theorem dX14_headerByte_88 : decode cX14_headerByte 88 = .ok (.ifCond .ne 9, 3) := by decide +kernel
theorem dX14_headerByte_91 : decode cX14_headerByte 91 = .ok (.iload_n 1, 1) := by decide +kernel
theorem dX14_headerByte_92 : decode cX14_headerByte 92 = .ok (.bipush 45, 2) := by decide +kernel
theorem dX14_headerByte_94 : decode cX14_headerByte 94 = .ok (.if_icmp .ne 7, 3) := by decide +kernel
theorem dX14_headerByte_97 : decode cX14_headerByte 97 = .ok (.iconst 1, 1) := by decide +kernel
theorem dX14_headerByte_98 : decode cX14_headerByte 98 = .ok (.goto 4, 3) := by decide +kernel
theorem dX14_headerByte_101 : decode cX14_headerByte 101 = .ok (.iconst 0, 1) := by decide +kernel
theorem dX14_headerByte_102 : decode cX14_headerByte 102 = .ok (.ireturn, 1) := by decide +kernel
theorem dX14_headerByte_103 : decode cX14_headerByte 103 = .ok (.aload_n 0, 1) := by decide +kernel
theorem dX14_headerByte_104 : decode cX14_headerByte 104 = .ok (.getfield 231, 3) := by decide +kernel
theorem dX14_headerByte_107 : decode cX14_headerByte 107 = .ok (.iconst 1, 1) := by decide +kernel
theorem dX14_headerByte_108 : decode cX14_headerByte 108 = .ok (.if_icmp .ne 45, 3) := by decide +kernel
theorem dX14_headerByte_111 : decode cX14_headerByte 111 = .ok (.iload_n 1, 1) := by decide +kernel
theorem dX14_headerByte_112 : decode cX14_headerByte 112 = .ok (.bipush 58, 2) := by decide +kernel
theorem dX14_headerByte_114 : decode cX14_headerByte 114 = .ok (.if_icmp .ne 10, 3) := by decide +kernel
theorem dX14_headerByte_117 : decode cX14_headerByte 117 = .ok (.aload_n 0, 1) := by decide +kernel
theorem dX14_headerByte_118 : decode cX14_headerByte 118 = .ok (.iconst 2, 1) := by decide +kernel
theorem dX14_headerByte_119 : decode cX14_headerByte 119 = .ok (.putfield 231, 3) := by decide +kernel
theorem dX14_headerByte_122 : decode cX14_headerByte 122 = .ok (.iconst 1, 1) := by decide +kernel
theorem dX14_headerByte_123 : decode cX14_headerByte 123 = .ok (.ireturn, 1) := by decide +kernel
theorem dX14_headerByte_124 : decode cX14_headerByte 124 = .ok (.aload_n 0, 1) := by decide +kernel
theorem dX14_headerByte_125 : decode cX14_headerByte 125 = .ok (.getfield 26, 3) := by decide +kernel
theorem dX14_headerByte_128 : decode cX14_headerByte 128 = .ok (.iload_n 1, 1) := by decide +kernel
theorem dX14_headerByte_129 : decode cX14_headerByte 129 = .ok (.i2c, 1) := by decide +kernel
theorem dX14_headerByte_130 : decode cX14_headerByte 130 = .ok (.invokevirtual 237, 3) := by decide +kernel
theorem dX14_headerByte_133 : decode cX14_headerByte 133 = .ok (.pop, 1) := by decide +kernel
theorem dX14_headerByte_134 : decode cX14_headerByte 134 = .ok (.iload_n 1, 1) := by decide +kernel
theorem dX14_headerByte_135 : decode cX14_headerByte 135 = .ok (.invokestatic 241, 3) := by decide +kernel
theorem dX14_headerByte_138 : decode cX14_headerByte 138 = .ok (.ifCond .ne 9, 3) := by decide +kernel
theorem dX14_headerByte_141 : decode cX14_headerByte 141 = .ok (.iload_n 1, 1) := by decide +kernel
theorem dX14_headerByte_142 : decode cX14_headerByte 142 = .ok (.bipush 45, 2) := by decide +kernel
theorem dX14_headerByte_144 : decode cX14_headerByte 144 = .ok (.if_icmp .ne 7, 3) := by decide +kernel
theorem dX14_headerByte_147 : decode cX14_headerByte 147 = .ok (.iconst 1, 1) := by decide +kernel
theorem dX14_headerByte_148 : decode cX14_headerByte 148 = .ok (.goto 4, 3) := by decide +kernel
theorem dX14_headerByte_151 : decode cX14_headerByte 151 = .ok (.iconst 0, 1) := by decide +kernel
theorem dX14_headerByte_152 : decode cX14_headerByte 152 = .ok (.ireturn, 1) := by decide +kernel
theorem dX14_headerByte_153 : decode cX14_headerByte 153 = .ok (.aload_n 0, 1) := by decide +kernel
theorem dX14_headerByte_154 : decode cX14_headerByte 154 = .ok (.getfield 231, 3) := by decide +kernel
theorem dX14_headerByte_157 : decode cX14_headerByte 157 = .ok (.iconst 4, 1) := by decide +kernel
theorem dX14_headerByte_158 : decode cX14_headerByte 158 = .ok (.if_icmp .eq 11, 3) := by decide +kernel
theorem dX14_headerByte_161 : decode cX14_headerByte 161 = .ok (.aload_n 0, 1) := by decide +kernel
theorem dX14_headerByte_162 : decode cX14_headerByte 162 = .ok (.getfield 231, 3) := by decide +kernel
theorem dX14_headerByte_165 : decode cX14_headerByte 165 = .ok (.iconst 5, 1) := by decide +kernel
theorem dX14_headerByte_166 : decode cX14_headerByte 166 = .ok (.if_icmp .ne 48, 3) := by decide +kernel
theorem dX14_headerByte_169 : decode cX14_headerByte 169 = .ok (.aload_n 0, 1) := by decide +kernel
theorem dX14_headerByte_170 : decode cX14_headerByte 170 = .ok (.getfield 231, 3) := by decide +kernel
theorem dX14_headerByte_173 : decode cX14_headerByte 173 = .ok (.iconst 5, 1) := by decide +kernel
theorem dX14_headerByte_174 : decode cX14_headerByte 174 = .ok (.if_icmp .ne 7, 3) := by decide +kernel
theorem dX14_headerByte_177 : decode cX14_headerByte 177 = .ok (.iconst 1, 1) := by decide +kernel
theorem dX14_headerByte_178 : decode cX14_headerByte 178 = .ok (.goto 4, 3) := by decide +kernel
theorem dX14_headerByte_181 : decode cX14_headerByte 181 = .ok (.iconst 0, 1) := by decide +kernel
theorem dX14_headerByte_182 : decode cX14_headerByte 182 = .ok (.istore_n 2, 1) := by decide +kernel
theorem dX14_headerByte_183 : decode cX14_headerByte 183 = .ok (.aload_n 0, 1) := by decide +kernel
theorem dX14_headerByte_184 : decode cX14_headerByte 184 = .ok (.iload_n 2, 1) := by decide +kernel
theorem dX14_headerByte_185 : decode cX14_headerByte 185 = .ok (.ifCond .eq 8, 3) := by decide +kernel
theorem dX14_headerByte_188 : decode cX14_headerByte 188 = .ok (.bipush 6, 2) := by decide +kernel
theorem dX14_headerByte_190 : decode cX14_headerByte 190 = .ok (.goto 4, 3) := by decide +kernel
theorem dX14_headerByte_193 : decode cX14_headerByte 193 = .ok (.iconst 0, 1) := by decide +kernel
theorem dX14_headerByte_194 : decode cX14_headerByte 194 = .ok (.putfield 231, 3) := by decide +kernel
theorem dX14_headerByte_197 : decode cX14_headerByte 197 = .ok (.aload_n 0, 1) := by decide +kernel
theorem dX14_headerByte_198 : decode cX14_headerByte 198 = .ok (.iconst 0, 1) := by decide +kernel
theorem dX14_headerByte_199 : decode cX14_headerByte 199 = .ok (.putfield 244, 3) := by decide +kernel
theorem dX14_headerByte_202 : decode cX14_headerByte 202 = .ok (.iload_n 1, 1) := by decide +kernel
theorem dX14_headerByte_203 : decode cX14_headerByte 203 = .ok (.bipush 10, 2) := by decide +kernel
theorem dX14_headerByte_205 : decode cX14_headerByte 205 = .ok (.if_icmp .ne 7, 3) := by decide +kernel
theorem dX14_headerByte_208 : decode cX14_headerByte 208 = .ok (.iconst 1, 1) := by decide +kernel
theorem dX14_headerByte_209 : decode cX14_headerByte 209 = .ok (.goto 4, 3) := by decide +kernel
theorem dX14_headerByte_212 : decode cX14_headerByte 212 = .ok (.iconst 0, 1) := by decide +kernel
theorem dX14_headerByte_213 : decode cX14_headerByte 213 = .ok (.ireturn, 1) := by decide +kernel
theorem dX14_headerByte_214 : decode cX14_headerByte 214 = .ok (.aload_n 0, 1) := by decide +kernel
theorem dX14_headerByte_215 : decode cX14_headerByte 215 = .ok (.getfield 231, 3) := by decide +kernel
theorem dX14_headerByte_218 : decode cX14_headerByte 218 = .ok (.iconst 2, 1) := by decide +kernel
theorem dX14_headerByte_219 : decode cX14_headerByte 219 = .ok (.if_icmp .ne 11, 3) := by decide +kernel
theorem dX14_headerByte_222 : decode cX14_headerByte 222 = .ok (.iload_n 1, 1) := by decide +kernel
theorem dX14_headerByte_223 : decode cX14_headerByte 223 = .ok (.bipush 32, 2) := by decide +kernel
theorem dX14_headerByte_225 : decode cX14_headerByte 225 = .ok (.if_icmp .ne 5, 3) := by decide +kernel
theorem dX14_headerByte_228 : decode cX14_headerByte 228 = .ok (.iconst 1, 1) := by decide +kernel
theorem dX14_headerByte_229 : decode cX14_headerByte 229 = .ok (.ireturn, 1) := by decide +kernel
theorem dX14_headerByte_230 : decode cX14_headerByte 230 = .ok (.aload_n 0, 1) := by decide +kernel
theorem dX14_headerByte_231 : decode cX14_headerByte 231 = .ok (.iconst 3, 1) := by decide +kernel
theorem dX14_headerByte_232 : decode cX14_headerByte 232 = .ok (.putfield 231, 3) := by decide +kernel
theorem dX14_headerByte_235 : decode cX14_headerByte 235 = .ok (.iload_n 1, 1) := by decide +kernel
theorem dX14_headerByte_236 : decode cX14_headerByte 236 = .ok (.bipush 13, 2) := by decide +kernel
theorem dX14_headerByte_238 : decode cX14_headerByte 238 = .ok (.if_icmp .ne 50, 3) := by decide +kernel
theorem dX14_headerByte_241 : decode cX14_headerByte 241 = .ok (.aload_n 0, 1) := by decide +kernel
theorem dX14_headerByte_242 : decode cX14_headerByte 242 = .ok (.iconst 4, 1) := by decide +kernel
theorem dX14_headerByte_243 : decode cX14_headerByte 243 = .ok (.putfield 231, 3) := by decide +kernel
theorem dX14_headerByte_246 : decode cX14_headerByte 246 = .ok (.aload_n 0, 1) := by decide +kernel
theorem dX14_headerByte_247 : decode cX14_headerByte 247 = .ok (.invokevirtual 247, 3) := by decide +kernel
theorem dX14_headerByte_250 : decode cX14_headerByte 250 = .ok (.ifCond .ne 5, 3) := by decide +kernel
theorem dX14_headerByte_253 : decode cX14_headerByte 253 = .ok (.iconst 1, 1) := by decide +kernel
theorem dX14_headerByte_254 : decode cX14_headerByte 254 = .ok (.ireturn, 1) := by decide +kernel
theorem dX14_headerByte_255 : decode cX14_headerByte 255 = .ok (.aload_n 0, 1) := by decide +kernel
theorem dX14_headerByte_256 : decode cX14_headerByte 256 = .ok (.aload_n 0, 1) := by decide +kernel
theorem dX14_headerByte_257 : decode cX14_headerByte 257 = .ok (.iconst 1, 1) := by decide +kernel
theorem dX14_headerByte_258 : decode cX14_headerByte 258 = .ok (.invokevirtual 251, 3) := by decide +kernel
theorem dX14_headerByte_261 : decode cX14_headerByte 261 = .ok (.ifCond .eq 10, 3) := by decide +kernel
theorem dX14_headerByte_264 : decode cX14_headerByte 264 = .ok (.aload_n 0, 1) := by decide +kernel
theorem dX14_headerByte_265 : decode cX14_headerByte 265 = .ok (.invokevirtual 255, 3) := by decide +kernel
theorem dX14_headerByte_268 : decode cX14_headerByte 268 = .ok (.goto 4, 3) := by decide +kernel
theorem dX14_headerByte_271 : decode cX14_headerByte 271 = .ok (.iconst (-1), 1) := by decide +kernel
theorem dX14_headerByte_272 : decode cX14_headerByte 272 = .ok (.putfield 33, 3) := by decide +kernel
theorem dX14_headerByte_275 : decode cX14_headerByte 275 = .ok (.aload_n 0, 1) := by decide +kernel
theorem dX14_headerByte_276 : decode cX14_headerByte 276 = .ok (.getfield 33, 3) := by decide +kernel
theorem dX14_headerByte_279 : decode cX14_headerByte 279 = .ok (.ifCond .lt 7, 3) := by decide +kernel
theorem dX14_headerByte_282 : decode cX14_headerByte 282 = .ok (.iconst 1, 1) := by decide +kernel
theorem dX14_headerByte_283 : decode cX14_headerByte 283 = .ok (.goto 4, 3) := by decide +kernel
theorem dX14_headerByte_286 : decode cX14_headerByte 286 = .ok (.iconst 0, 1) := by decide +kernel
theorem dX14_headerByte_287 : decode cX14_headerByte 287 = .ok (.ireturn, 1) := by decide +kernel
theorem dX14_headerByte_288 : decode cX14_headerByte 288 = .ok (.aload_n 0, 1) := by decide +kernel
theorem dX14_headerByte_289 : decode cX14_headerByte 289 = .ok (.getfield 30, 3) := by decide +kernel
theorem dX14_headerByte_292 : decode cX14_headerByte 292 = .ok (.iload_n 1, 1) := by decide +kernel
theorem dX14_headerByte_293 : decode cX14_headerByte 293 = .ok (.i2c, 1) := by decide +kernel
theorem dX14_headerByte_294 : decode cX14_headerByte 294 = .ok (.invokevirtual 237, 3) := by decide +kernel
theorem dX14_headerByte_297 : decode cX14_headerByte 297 = .ok (.pop, 1) := by decide +kernel
theorem dX14_headerByte_298 : decode cX14_headerByte 298 = .ok (.iload_n 1, 1) := by decide +kernel
theorem dX14_headerByte_299 : decode cX14_headerByte 299 = .ok (.bipush 32, 2) := by decide +kernel
theorem dX14_headerByte_301 : decode cX14_headerByte 301 = .ok (.bipush 126, 2) := by decide +kernel
theorem dX14_headerByte_303 : decode cX14_headerByte 303 = .ok (.invokestatic 181, 3) := by decide +kernel
theorem dX14_headerByte_306 : decode cX14_headerByte 306 = .ok (.ifCond .eq 22, 3) := by decide +kernel
theorem dX14_headerByte_309 : decode cX14_headerByte 309 = .ok (.aload_n 0, 1) := by decide +kernel
theorem dX14_headerByte_310 : decode cX14_headerByte 310 = .ok (.invokevirtual 247, 3) := by decide +kernel
theorem dX14_headerByte_313 : decode cX14_headerByte 313 = .ok (.ifCond .eq 11, 3) := by decide +kernel
theorem dX14_headerByte_316 : decode cX14_headerByte 316 = .ok (.aload_n 0, 1) := by decide +kernel
theorem dX14_headerByte_317 : decode cX14_headerByte 317 = .ok (.iconst 0, 1) := by decide +kernel
theorem dX14_headerByte_318 : decode cX14_headerByte 318 = .ok (.invokevirtual 251, 3) := by decide +kernel
theorem dX14_headerByte_321 : decode cX14_headerByte 321 = .ok (.ifCond .eq 7, 3) := by decide +kernel
theorem dX14_headerByte_324 : decode cX14_headerByte 324 = .ok (.iconst 1, 1) := by decide +kernel
theorem dX14_headerByte_325 : decode cX14_headerByte 325 = .ok (.goto 4, 3) := by decide +kernel
theorem dX14_headerByte_328 : decode cX14_headerByte 328 = .ok (.iconst 0, 1) := by decide +kernel
theorem dX14_headerByte_329 : decode cX14_headerByte 329 = .ok (.ireturn, 1) := by decide +kernel
def EX14_headerByte : List (Nat × Nat) := [(0, 0), (0, 2), (0, 3), (16, 11), (16, 12), (16, 15), (16, 16), (196, 0)]
set_option maxHeartbeats 4000000 in
set_option maxRecDepth 20000 in
theorem uX14_headerByte (l : Launch) (dC : Nat → ClassId) (dI : Nat → Nat → Nat) (ca : Nat → ClassId) (base : Nat) (B : jF) (hB : jBok B) (hAp : jAp (dC, dI)) (hB0 : ∀ n G a H, B 0 n G a H ↔ jOb (dC, dI) 0 4 (Fz0 n G) a H) (hB16 : ∀ n G a H, B 16 n G a H ↔ jOb (dC, dI) 16 74 (F16 n G) a H) (hB196 : ∀ n G a H, B 196 n G a H ↔ jAr (dC, dI) (ca 0) (fun j z => jBf j z) n a H) (G0 : jT) (H0 : Heap) (r0 : Nat) (a1 : Int32) (bn : Nat) (bv : Nat) (cn : Int32) (an : Nat) (n_an : Nat) (cv : Int32) (av : Nat) (n_av : Nat) (ph : Int32) (pm : Int32) (pl : Int32) (pb : Int32) (LC LS : Nat) : Met l yX14_headerByte (jw yX14_headerByte cX14_headerByte 3 (some .boolean)) ({ frames := 6, cells := LC - H0.size, slots := LS - jTot H0, locals := 164 }) (va_Pc [.ref r0, .int a1] (fun U => U.heap = H0 ∧ jX B base G0 [] H0 ∧ jG dC dI ca base U ∧ G0 r0 = some (16, 0) ∧ G0 bn = some (0, 0) ∧ G0 bv = some (0, 0) ∧ G0 an = some (196, n_an) ∧ G0 av = some (196, n_av) ∧ jP (dC, dI) G0 H0 [(r0, 16, 13, .ref bn), (r0, 16, 14, .ref bv), (bn, 0, 3, .int cn), (bn, 0, 0, .ref an), (bv, 0, 3, .int cv), (bv, 0, 0, .ref av), (r0, 16, 12, .int ph), (r0, 16, 11, .int pm), (r0, 16, 15, .int pl), (r0, 16, 16, .int pb)] ∧ H0.size + (n_an + n_av + 4) ≤ LC ∧ jTot H0 + (2 * (n_an + n_av) + 8) ≤ LS ∧ bn ≠ bv ∧ 0 ≤ ph.toInt ∧ ph.toInt ≤ 200 ∧ 0 ≤ cn.toInt ∧ (pm.toInt = 0 ∨ cn.toInt ≤ ph.toInt) ∧ cn.toInt ≤ n_an ∧ 16 ≤ n_an ∧ n_an ≤ 400 ∧ 0 ≤ cv.toInt ∧ (pm.toInt = 0 ∨ cv.toInt ≤ ph.toInt) ∧ cv.toInt ≤ n_av ∧ 16 ≤ n_av ∧ n_av ≤ 400 ∧ -1 ≤ pl.toInt ∧ pl.toInt ≤ 3000 ∧ (pm.toInt ≠ 5 ∨ 0 ≤ pl.toInt) ∧ 0 ≤ a1.toInt ∧ a1.toInt ≤ 255 ∧ 0 ≤ pm.toInt ∧ pm.toInt ≤ 5)) (va_Qi (S := Int32 × Int32 × Int32 × Int32 × Int32 × Int32 × Nat × Nat × Nat × Nat × jT) (fun r u => (r = 0 ∨ r = 1) ∧ (u.1.toInt = ph.toInt + 1 ∧ 0 ≤ u.2.2.2.2.1.toInt ∧ (u.2.1.toInt = 0 ∨ u.2.2.2.2.1.toInt ≤ u.1.toInt) ∧ u.2.2.2.2.1.toInt ≤ u.2.2.2.2.2.2.2.1 ∧ n_an ≤ u.2.2.2.2.2.2.2.1 ∧ u.2.2.2.2.2.2.2.1 ≤ 400 ∧ 0 ≤ u.2.2.2.2.2.1.toInt ∧ (u.2.1.toInt = 0 ∨ u.2.2.2.2.2.1.toInt ≤ u.1.toInt) ∧ u.2.2.2.2.2.1.toInt ≤ u.2.2.2.2.2.2.2.2.2.1 ∧ n_av ≤ u.2.2.2.2.2.2.2.2.2.1 ∧ u.2.2.2.2.2.2.2.2.2.1 ≤ 400 ∧ -1 ≤ u.2.2.1.toInt ∧ u.2.2.1.toInt ≤ 3000 ∧ (r.toInt = 0 ∨ (u.1.toInt ≤ 200 ∧ 0 ≤ u.2.1.toInt ∧ u.2.1.toInt ≤ 6 ∧ (u.2.1.toInt ≠ 5 ∨ 0 ≤ u.2.2.1.toInt) ∧ (u.2.1.toInt ≠ 6 ∨ (u.2.2.2.1.toInt = 0 ∧ 0 ≤ u.2.2.1.toInt)))))) (fun u t => jRa (dC, dI) B base G0 u.2.2.2.2.2.2.2.2.2.2 EX14_headerByte H0 ((u.2.2.2.2.2.2.2.1 - n_an) + (u.2.2.2.2.2.2.2.2.2.1 - n_av)) (2 * (u.2.2.2.2.2.2.2.1 - n_an) + 2 * (u.2.2.2.2.2.2.2.2.2.1 - n_av)) [(r0, 16, 12, .int u.1), (r0, 16, 11, .int u.2.1), (r0, 16, 15, .int u.2.2.1), (r0, 16, 16, .int u.2.2.2.1), (bn, 0, 3, .int u.2.2.2.2.1), (bv, 0, 3, .int u.2.2.2.2.2.1), (bn, 0, 0, .ref u.2.2.2.2.2.2.1), (bv, 0, 0, .ref u.2.2.2.2.2.2.2.2.1)] t.heap ∧ u.2.2.2.2.2.2.2.2.2.2 u.2.2.2.2.2.2.1 = some (196, u.2.2.2.2.2.2.2.1) ∧ u.2.2.2.2.2.2.2.2.2.2 u.2.2.2.2.2.2.2.2.1 = some (196, u.2.2.2.2.2.2.2.2.2.1) ∧ (jNk [0, 1, 2, 3, 4, 5, 6, 7, 8, 9, 10, 11, 12, 13, 14, 15, 16]) G0 u.2.2.2.2.2.2.2.2.2.2) (jA base)) (LC - H0.size) (LS - jTot H0) (jA base) := by
  refine Met.ofW (cc := cX14_headerByte) (maxL := 3) (ret := (some .boolean)) (by decide) rfl ?_
  intro p e s m args below meth c s₁ Bd hml hv
  obtain ⟨rfl, hH0, hX, hG, hg_r0, hg_bn, hg_bv, hg_an, hg_av, hP0, hLC0, hLS0, hp0, hp1, hp2, hp3, hp4, hp5, hp6, hp7, hp8, hp9, hp10, hp11, hp12, hp13, hp14, hp15, hp16, hp17, hp18, hp19⟩ := hv
  have hK := hG.1
  have hx := Bd.exec
  have hb := Bd.bytes
  have hr := Bd.returns
  have hts := atoms_spec (ws := (jw yX14_headerByte cX14_headerByte 3 (some .boolean))) Bd.pre
  have htw : ∀ w ∈ jWl, w.before _ s = true := fun w h => hts w (List.mem_cons_of_mem _ h)
  have hown : s.vm.findClass RX14 = some m.cls := findClass_of_methodNamed Bd.named
  have hlocks := Bd.notSynchronized
  obtain ⟨Q, hQ⟩ : ∃ Q, Q = MQ below (va_Qi (S := Int32 × Int32 × Int32 × Int32 × Int32 × Int32 × Nat × Nat × Nat × Nat × jT) (fun r u => (r = 0 ∨ r = 1) ∧ (u.1.toInt = ph.toInt + 1 ∧ 0 ≤ u.2.2.2.2.1.toInt ∧ (u.2.1.toInt = 0 ∨ u.2.2.2.2.1.toInt ≤ u.1.toInt) ∧ u.2.2.2.2.1.toInt ≤ u.2.2.2.2.2.2.2.1 ∧ n_an ≤ u.2.2.2.2.2.2.2.1 ∧ u.2.2.2.2.2.2.2.1 ≤ 400 ∧ 0 ≤ u.2.2.2.2.2.1.toInt ∧ (u.2.1.toInt = 0 ∨ u.2.2.2.2.2.1.toInt ≤ u.1.toInt) ∧ u.2.2.2.2.2.1.toInt ≤ u.2.2.2.2.2.2.2.2.2.1 ∧ n_av ≤ u.2.2.2.2.2.2.2.2.2.1 ∧ u.2.2.2.2.2.2.2.2.2.1 ≤ 400 ∧ -1 ≤ u.2.2.1.toInt ∧ u.2.2.1.toInt ≤ 3000 ∧ (r.toInt = 0 ∨ (u.1.toInt ≤ 200 ∧ 0 ≤ u.2.1.toInt ∧ u.2.1.toInt ≤ 6 ∧ (u.2.1.toInt ≠ 5 ∨ 0 ≤ u.2.2.1.toInt) ∧ (u.2.1.toInt ≠ 6 ∨ (u.2.2.2.1.toInt = 0 ∧ 0 ≤ u.2.2.1.toInt)))))) (fun u t => jRa (dC, dI) B base G0 u.2.2.2.2.2.2.2.2.2.2 EX14_headerByte H0 ((u.2.2.2.2.2.2.2.1 - n_an) + (u.2.2.2.2.2.2.2.2.2.1 - n_av)) (2 * (u.2.2.2.2.2.2.2.1 - n_an) + 2 * (u.2.2.2.2.2.2.2.2.2.1 - n_av)) [(r0, 16, 12, .int u.1), (r0, 16, 11, .int u.2.1), (r0, 16, 15, .int u.2.2.1), (r0, 16, 16, .int u.2.2.2.1), (bn, 0, 3, .int u.2.2.2.2.1), (bv, 0, 3, .int u.2.2.2.2.2.1), (bn, 0, 0, .ref u.2.2.2.2.2.2.1), (bv, 0, 0, .ref u.2.2.2.2.2.2.2.2.1)] t.heap ∧ u.2.2.2.2.2.2.2.2.2.2 u.2.2.2.2.2.2.1 = some (196, u.2.2.2.2.2.2.2.1) ∧ u.2.2.2.2.2.2.2.2.2.2 u.2.2.2.2.2.2.2.2.1 = some (196, u.2.2.2.2.2.2.2.2.2.1) ∧ (jNk [0, 1, 2, 3, 4, 5, 6, 7, 8, 9, 10, 11, 12, 13, 14, 15, 16]) G0 u.2.2.2.2.2.2.2.2.2.2) (jA base)) ([.ref r0, .int a1] : List Value).toArray s (LC - H0.size) (LS - jTot H0) (jA base) := ⟨_, rfl⟩
  rw [← hQ]
  have hl := lv_entry ([.ref r0, .int a1]) (n := 3) (Nat.le_of_ble_eq_true rfl)
  rw [lg_entry_eq]
  generalize (lg_sl ([.ref r0, .int a1]) ++ List.replicate (3 - (lg_sl ([.ref r0, .int a1])).length) Slot.unset).toArray = ls at hl ⊢
  have hl : lv_has ls 3 [(0, .ref r0), (1, .int a1)] := hl
  generalize hR : (headSpec (jw yX14_headerByte cX14_headerByte 3 (some .boolean)) ({ frames := 6, cells := LC - H0.size, slots := LS - jTot H0, locals := 164 })).room = R
  subst hH0
  have hh : jSt (dC, dI) B base G0 G0 EX14_headerByte s.heap 0 0 [(r0, 16, 13, .ref bn), (r0, 16, 14, .ref bv), (bn, 0, 3, .int cn), (bn, 0, 0, .ref an), (bv, 0, 3, .int cv), (bv, 0, 0, .ref av), (r0, 16, 12, .int ph), (r0, 16, 11, .int pm), (r0, 16, 15, .int pl), (r0, 16, 16, .int pb)] [] [] s.heap [] := jSt.start hX hP0 jMc.nil jIs.nil
  clear hX hP0
  have hkm1 : ((-1) : Int32).toInt = (-1) := by decide
  have hk0 : (0 : Int32).toInt = 0 := by decide
  have hk1 : (1 : Int32).toInt = 1 := by decide
  have hk2 : (2 : Int32).toInt = 2 := by decide
  have hk3 : (3 : Int32).toInt = 3 := by decide
  have hk4 : (4 : Int32).toInt = 4 := by decide
  have hk5 : (5 : Int32).toInt = 5 := by decide
  have hk6 : (6 : Int32).toInt = 6 := by decide
  have hk10 : (10 : Int32).toInt = 10 := by decide
  have hk13 : (13 : Int32).toInt = 13 := by decide
  have hk32 : (32 : Int32).toInt = 32 := by decide
  have hk45 : (45 : Int32).toInt = 45 := by decide
  have hk58 : (58 : Int32).toInt = 58 := by decide
  have hk126 : (126 : Int32).toInt = 126 := by decide
  have hk200 : (200 : Int32).toInt = 200 := by decide
  have hly_16_11 := htw (u_lay RX14 TX14 11) (jWc_wsX140 _ (u_in_lay (by decide)))
  have hly_16_12 := htw (u_lay RX14 TX14 12) (jWc_wsX140 _ (u_in_lay (by decide)))
  have hly_16_13 := htw (u_lay RX14 TX14 13) (jWc_wsX140 _ (u_in_lay (by decide)))
  have hly_16_14 := htw (u_lay RX14 TX14 14) (jWc_wsX140 _ (u_in_lay (by decide)))
  have hly_16_15 := htw (u_lay RX14 TX14 15) (jWc_wsX140 _ (u_in_lay (by decide)))
  have hly_16_16 := htw (u_lay RX14 TX14 16) (jWc_wsX140 _ (u_in_lay (by decide)))
  have hlk_228 := (htw (.fieldLink RX14 228 "ProofServerModel" "headerBytes" "I") (jWr_44 _ (List.mem_of_getElem? (i := 18) rfl)))
  have hlk_231 := (htw (.fieldLink RX14 231 "ProofServerModel" "mode" "I") (jWr_44 _ (List.mem_of_getElem? (i := 15) rfl)))
  have hlk_26 := (htw (.fieldLink RX14 26 "ProofServerModel" "name" "Ljava/lang/StringBuilder;") (jWr_11 _ (List.mem_of_getElem? (i := 1) rfl)))
  have hlk_30 := (htw (.fieldLink RX14 30 "ProofServerModel" "value" "Ljava/lang/StringBuilder;") (jWr_11 _ (List.mem_of_getElem? (i := 2) rfl)))
  have hlk_33 := (htw (.fieldLink RX14 33 "ProofServerModel" "length" "I") (jWr_11 _ (List.mem_of_getElem? (i := 3) rfl)))
  have hlk_244 := (htw (.fieldLink RX14 244 "ProofServerModel" "bodyFrom" "I") (jWr_44 _ (List.mem_of_getElem? (i := 17) rfl)))
  have hrg_a1 := jb_rng a1
  have hbs : base ≤ s.heap.size := Nat.le_of_lt (Nat.lt_of_le_of_lt (hh.ab hg_r0).1 (hh.ab hg_r0).2)
  have hRc : R.cells = LC - s.heap.size := by rw [← hR]; rfl
  have hRs : R.slots = LS - jTot s.heap := by rw [← hR]; rfl
  refine lv_aload_n hx hb dX14_headerByte_0 rfl (lv_at hl 0 rfl) ?_
  refine lv_dup hx hb dX14_headerByte_1 rfl ?_
  refine j7_read hx hb hown hK (C := RX14) (T := TX14) (N := 74) rfl hly_16_12 hlk_228 (hh.at 6 rfl) dX14_headerByte_2 ?_
  refine lv_iconst (v := 1) hx hb dX14_headerByte_5 (by decide) ?_
  refine lv_iadd hx hb dX14_headerByte_6 ?_
  refine lv_topi (fun z_1 ez_1 => ?_)
  have hz_1 : z_1.toInt = ph.toInt + 1 := by rw [ez_1]; exact jb_iadd2 (rfl) ((by decide)) (by omega)
  refine j7_put hx hb hown hK hh hB hAp hB16 (C := RX14) (T := TX14) (N := 74) rfl (by decide) hg_r0 (i := 12) (by decide) hly_16_12 rfl hlk_228 rfl (ty := .int) (v := .int z_1) (by decide +kernel) rfl rfl (⟨_, rfl⟩) rfl (L1 := [(r0, 16, 13, .ref bn), (r0, 16, 14, .ref bv), (bn, 0, 3, .int cn), (bn, 0, 0, .ref an), (bv, 0, 3, .int cv), (bv, 0, 0, .ref av), (r0, 16, 11, .int pm), (r0, 16, 15, .int pl), (r0, 16, 16, .int pb)]) [0, 1, 2, 3, 4, 5, 7, 8, 9] rfl rfl rfl dX14_headerByte_7 (fun H_2 locs_2 hh_2 => ?_)
  clear hh
  refine lv_aload_n hx hb dX14_headerByte_10 rfl (lv_at hl 0 rfl) ?_
  refine j7_read hx hb hown hK (C := RX14) (T := TX14) (N := 74) rfl hly_16_12 hlk_228 (hh_2.at 0 rfl) dX14_headerByte_11 ?_
  refine lv_sipush (v := 200) hx hb dX14_headerByte_14 (by decide) ?_
  refine lv_icmp_le (tgt := 22) hx hb dX14_headerByte_17 (by decide) (fun c_3 => ?_) (fun c_3 => ?_)
  · skip
    have c_3' : z_1.toInt ≤ 200 := jb_le (rfl) ((by decide)) c_3
    refine lv_aload_n hx hb dX14_headerByte_22 rfl (lv_at hl 0 rfl) ?_
    refine j7_read hx hb hown hK (C := RX14) (T := TX14) (N := 74) rfl hly_16_11 hlk_231 (hh_2.at 7 rfl) dX14_headerByte_23 ?_
    refine lv_if_ne (tgt := 103) hx hb dX14_headerByte_26 (by decide) (fun c_4 => ?_) (fun c_4 => ?_)
    · skip
      have c_4' : pm.toInt ≠ 0 := jb_ne (rfl) ((by decide)) c_4
      refine lv_aload_n hx hb dX14_headerByte_103 rfl (lv_at hl 0 rfl) ?_
      refine j7_read hx hb hown hK (C := RX14) (T := TX14) (N := 74) rfl hly_16_11 hlk_231 (hh_2.at 7 rfl) dX14_headerByte_104 ?_
      refine lv_iconst (v := 1) hx hb dX14_headerByte_107 (by decide) ?_
      refine lv_icmp_ne (tgt := 153) hx hb dX14_headerByte_108 (by decide) (fun c_5 => ?_) (fun c_5 => ?_)
      · skip
        have c_5' : pm.toInt ≠ 1 := jb_ne (rfl) ((by decide)) c_5
        refine lv_aload_n hx hb dX14_headerByte_153 rfl (lv_at hl 0 rfl) ?_
        refine j7_read hx hb hown hK (C := RX14) (T := TX14) (N := 74) rfl hly_16_11 hlk_231 (hh_2.at 7 rfl) dX14_headerByte_154 ?_
        refine lv_iconst (v := 4) hx hb dX14_headerByte_157 (by decide) ?_
        refine lv_icmp_eq (tgt := 169) hx hb dX14_headerByte_158 (by decide) (fun c_6 => ?_) (fun c_6 => ?_)
        · skip
          have c_6' : pm.toInt = 4 := jb_eq (rfl) ((by decide)) c_6
          refine lv_aload_n hx hb dX14_headerByte_169 rfl (lv_at hl 0 rfl) ?_
          refine j7_read hx hb hown hK (C := RX14) (T := TX14) (N := 74) rfl hly_16_11 hlk_231 (hh_2.at 7 rfl) dX14_headerByte_170 ?_
          refine lv_iconst (v := 5) hx hb dX14_headerByte_173 (by decide) ?_
          refine lv_icmp_ne (tgt := 181) hx hb dX14_headerByte_174 (by decide) (fun c_7 => ?_) (fun c_7 => ?_)
          · skip
            have c_7' : pm.toInt ≠ 5 := jb_ne (rfl) ((by decide)) c_7
            refine lv_iconst (v := 0) hx hb dX14_headerByte_181 (by decide) ?_
            refine lv_istore_n (lv' := [(2, .int 0), (0, .ref r0), (1, .int a1)]) hx hb dX14_headerByte_182 rfl hl (by decide) rfl (fun ls hl => ?_)
            refine lv_aload_n hx hb dX14_headerByte_183 rfl (lv_at hl 1 rfl) ?_
            refine lv_iload_n hx hb dX14_headerByte_184 rfl (lv_at hl 0 rfl) ?_
            refine lv_if_eq (tgt := 193) hx hb dX14_headerByte_185 (by decide) (fun c_8 => ?_) (fun c_8 => ?_)
            · skip
              refine lv_iconst (v := 0) hx hb dX14_headerByte_193 (by decide) ?_
              refine j7_put hx hb hown hK hh_2 hB hAp hB16 (C := RX14) (T := TX14) (N := 74) rfl (by decide) hg_r0 (i := 11) (by decide) hly_16_11 rfl hlk_231 rfl (ty := .int) (v := .int 0) (by decide +kernel) rfl rfl (⟨_, rfl⟩) rfl (L1 := [(r0, 16, 12, .int z_1), (r0, 16, 13, .ref bn), (r0, 16, 14, .ref bv), (bn, 0, 3, .int cn), (bn, 0, 0, .ref an), (bv, 0, 3, .int cv), (bv, 0, 0, .ref av), (r0, 16, 15, .int pl), (r0, 16, 16, .int pb)]) [0, 1, 2, 3, 4, 5, 6, 8, 9] rfl rfl rfl dX14_headerByte_194 (fun H_9 locs_9 hh_9 => ?_)
              clear hh_2
              refine lv_aload_n hx hb dX14_headerByte_197 rfl (lv_at hl 1 rfl) ?_
              refine lv_iconst (v := 0) hx hb dX14_headerByte_198 (by decide) ?_
              refine j7_put hx hb hown hK hh_9 hB hAp hB16 (C := RX14) (T := TX14) (N := 74) rfl (by decide) hg_r0 (i := 16) (by decide) hly_16_16 rfl hlk_244 rfl (ty := .int) (v := .int 0) (by decide +kernel) rfl rfl (⟨_, rfl⟩) rfl (L1 := [(r0, 16, 11, .int 0), (r0, 16, 12, .int z_1), (r0, 16, 13, .ref bn), (r0, 16, 14, .ref bv), (bn, 0, 3, .int cn), (bn, 0, 0, .ref an), (bv, 0, 3, .int cv), (bv, 0, 0, .ref av), (r0, 16, 15, .int pl)]) [0, 1, 2, 3, 4, 5, 6, 7, 8] rfl rfl rfl dX14_headerByte_199 (fun H_10 locs_10 hh_10 => ?_)
              clear hh_9
              refine lv_iload_n hx hb dX14_headerByte_202 rfl (lv_at hl 2 rfl) ?_
              refine lv_bipush (v := 10) hx hb dX14_headerByte_203 (by decide) ?_
              refine lv_icmp_ne (tgt := 212) hx hb dX14_headerByte_205 (by decide) (fun c_11 => ?_) (fun c_11 => ?_)
              · skip
                have c_11' : a1.toInt ≠ 10 := jb_ne (rfl) ((by decide)) c_11
                refine lv_iconst (v := 0) hx hb dX14_headerByte_212 (by decide) ?_
                have hsz_12 := hh_10.2.2.2.2.2.1
                have htt_12 := hh_10.2.2.2.2.2.2.1
                refine W.room (fun hrc_12 hrs_12 => ?_)
                refine W.widen (k := LC - s.heap.size) (n := LS - jTot s.heap) (by omega) (by omega) ?_
                rw [hQ]
                exact W.zret (v := 0) hx hb hr (jb_nz (Or.inl rfl)) (fun t ht hW => ⟨⟨0, (z_1, 0, pl, 0, cn, cv, an, n_an, av, n_av, G0), rfl, ⟨(Or.inl rfl), by (try dsimp only); exact ⟨(by first | omega | rfl | assumption | fail), (by first | omega | rfl | assumption | fail), (by first | omega | rfl | assumption | fail), (by first | omega | rfl | assumption | fail), (by first | omega | rfl | assumption | fail), (by first | omega | rfl | assumption | fail), (by first | omega | rfl | assumption | fail), (by first | omega | rfl | assumption | fail), (by first | omega | rfl | assumption | fail), (by first | omega | rfl | assumption | fail), (by first | omega | rfl | assumption | fail), (by first | omega | rfl | assumption | fail), (by first | omega | rfl | assumption | fail), (by first | omega | rfl | assumption | fail)⟩⟩, ⟨hh_10.ra (by first | (simp only; omega) | omega) (by first | (simp only; omega) | omega) (M1 := [(r0, 16, 12, .int z_1), (r0, 16, 11, .int 0), (r0, 16, 15, .int pl), (r0, 16, 16, .int 0), (bn, 0, 3, .int cn), (bv, 0, 3, .int cv), (bn, 0, 0, .ref an), (bv, 0, 0, .ref av)]) [2, 1, 9, 0, 5, 7, 6, 8] rfl ht, hg_an, hg_av, jNk.rf⟩⟩, by rw [ht]; try exact hh_10.1.1, fun q h9 hq => by rw [ht]; try exact hh_10.1.2.1 q h9 hq⟩) hh_10.1.2.2 dX14_headerByte_213
              · skip
                have c_11' : a1.toInt = 10 := jb_ne_n (rfl) ((by decide)) c_11
                refine lv_iconst (v := 1) hx hb dX14_headerByte_208 (by decide) ?_
                refine lv_goto (tgt := 213) hx hb dX14_headerByte_209 (by decide) ?_
                have hsz_13 := hh_10.2.2.2.2.2.1
                have htt_13 := hh_10.2.2.2.2.2.2.1
                refine W.room (fun hrc_13 hrs_13 => ?_)
                refine W.widen (k := LC - s.heap.size) (n := LS - jTot s.heap) (by omega) (by omega) ?_
                rw [hQ]
                exact W.zret (v := 1) hx hb hr (jb_nz (Or.inr rfl)) (fun t ht hW => ⟨⟨1, (z_1, 0, pl, 0, cn, cv, an, n_an, av, n_av, G0), rfl, ⟨(Or.inr rfl), by (try dsimp only); exact ⟨(by first | omega | rfl | assumption | fail), (by first | omega | rfl | assumption | fail), (by first | omega | rfl | assumption | fail), (by first | omega | rfl | assumption | fail), (by first | omega | rfl | assumption | fail), (by first | omega | rfl | assumption | fail), (by first | omega | rfl | assumption | fail), (by first | omega | rfl | assumption | fail), (by first | omega | rfl | assumption | fail), (by first | omega | rfl | assumption | fail), (by first | omega | rfl | assumption | fail), (by first | omega | rfl | assumption | fail), (by first | omega | rfl | assumption | fail), (by first | omega | rfl | assumption | fail)⟩⟩, ⟨hh_10.ra (by first | (simp only; omega) | omega) (by first | (simp only; omega) | omega) (M1 := [(r0, 16, 12, .int z_1), (r0, 16, 11, .int 0), (r0, 16, 15, .int pl), (r0, 16, 16, .int 0), (bn, 0, 3, .int cn), (bv, 0, 3, .int cv), (bn, 0, 0, .ref an), (bv, 0, 0, .ref av)]) [2, 1, 9, 0, 5, 7, 6, 8] rfl ht, hg_an, hg_av, jNk.rf⟩⟩, by rw [ht]; try exact hh_10.1.1, fun q h9 hq => by rw [ht]; try exact hh_10.1.2.1 q h9 hq⟩) hh_10.1.2.2 dX14_headerByte_213
            · skip
              exact absurd c_8 (by decide)
          · skip
            have c_7' : pm.toInt = 5 := jb_ne_n (rfl) ((by decide)) c_7
            refine lv_iconst (v := 1) hx hb dX14_headerByte_177 (by decide) ?_
            refine lv_goto (tgt := 182) hx hb dX14_headerByte_178 (by decide) ?_
            refine lv_istore_n (lv' := [(2, .int 1), (0, .ref r0), (1, .int a1)]) hx hb dX14_headerByte_182 rfl hl (by decide) rfl (fun ls hl => ?_)
            refine lv_aload_n hx hb dX14_headerByte_183 rfl (lv_at hl 1 rfl) ?_
            refine lv_iload_n hx hb dX14_headerByte_184 rfl (lv_at hl 0 rfl) ?_
            refine lv_if_eq (tgt := 193) hx hb dX14_headerByte_185 (by decide) (fun c_14 => ?_) (fun c_14 => ?_)
            · skip
              exact absurd c_14 (by decide)
            · skip
              refine lv_bipush (v := 6) hx hb dX14_headerByte_188 (by decide) ?_
              refine lv_goto (tgt := 194) hx hb dX14_headerByte_190 (by decide) ?_
              refine j7_put hx hb hown hK hh_2 hB hAp hB16 (C := RX14) (T := TX14) (N := 74) rfl (by decide) hg_r0 (i := 11) (by decide) hly_16_11 rfl hlk_231 rfl (ty := .int) (v := .int 6) (by decide +kernel) rfl rfl (⟨_, rfl⟩) rfl (L1 := [(r0, 16, 12, .int z_1), (r0, 16, 13, .ref bn), (r0, 16, 14, .ref bv), (bn, 0, 3, .int cn), (bn, 0, 0, .ref an), (bv, 0, 3, .int cv), (bv, 0, 0, .ref av), (r0, 16, 15, .int pl), (r0, 16, 16, .int pb)]) [0, 1, 2, 3, 4, 5, 6, 8, 9] rfl rfl rfl dX14_headerByte_194 (fun H_15 locs_15 hh_15 => ?_)
              clear hh_2
              refine lv_aload_n hx hb dX14_headerByte_197 rfl (lv_at hl 1 rfl) ?_
              refine lv_iconst (v := 0) hx hb dX14_headerByte_198 (by decide) ?_
              refine j7_put hx hb hown hK hh_15 hB hAp hB16 (C := RX14) (T := TX14) (N := 74) rfl (by decide) hg_r0 (i := 16) (by decide) hly_16_16 rfl hlk_244 rfl (ty := .int) (v := .int 0) (by decide +kernel) rfl rfl (⟨_, rfl⟩) rfl (L1 := [(r0, 16, 11, .int 6), (r0, 16, 12, .int z_1), (r0, 16, 13, .ref bn), (r0, 16, 14, .ref bv), (bn, 0, 3, .int cn), (bn, 0, 0, .ref an), (bv, 0, 3, .int cv), (bv, 0, 0, .ref av), (r0, 16, 15, .int pl)]) [0, 1, 2, 3, 4, 5, 6, 7, 8] rfl rfl rfl dX14_headerByte_199 (fun H_16 locs_16 hh_16 => ?_)
              clear hh_15
              refine lv_iload_n hx hb dX14_headerByte_202 rfl (lv_at hl 2 rfl) ?_
              refine lv_bipush (v := 10) hx hb dX14_headerByte_203 (by decide) ?_
              refine lv_icmp_ne (tgt := 212) hx hb dX14_headerByte_205 (by decide) (fun c_17 => ?_) (fun c_17 => ?_)
              · skip
                have c_17' : a1.toInt ≠ 10 := jb_ne (rfl) ((by decide)) c_17
                refine lv_iconst (v := 0) hx hb dX14_headerByte_212 (by decide) ?_
                have hsz_18 := hh_16.2.2.2.2.2.1
                have htt_18 := hh_16.2.2.2.2.2.2.1
                refine W.room (fun hrc_18 hrs_18 => ?_)
                refine W.widen (k := LC - s.heap.size) (n := LS - jTot s.heap) (by omega) (by omega) ?_
                rw [hQ]
                exact W.zret (v := 0) hx hb hr (jb_nz (Or.inl rfl)) (fun t ht hW => ⟨⟨0, (z_1, 6, pl, 0, cn, cv, an, n_an, av, n_av, G0), rfl, ⟨(Or.inl rfl), by (try dsimp only); exact ⟨(by first | omega | rfl | assumption | fail), (by first | omega | rfl | assumption | fail), (by first | omega | rfl | assumption | fail), (by first | omega | rfl | assumption | fail), (by first | omega | rfl | assumption | fail), (by first | omega | rfl | assumption | fail), (by first | omega | rfl | assumption | fail), (by first | omega | rfl | assumption | fail), (by first | omega | rfl | assumption | fail), (by first | omega | rfl | assumption | fail), (by first | omega | rfl | assumption | fail), (by first | omega | rfl | assumption | fail), (by first | omega | rfl | assumption | fail), (by first | omega | rfl | assumption | fail)⟩⟩, ⟨hh_16.ra (by first | (simp only; omega) | omega) (by first | (simp only; omega) | omega) (M1 := [(r0, 16, 12, .int z_1), (r0, 16, 11, .int 6), (r0, 16, 15, .int pl), (r0, 16, 16, .int 0), (bn, 0, 3, .int cn), (bv, 0, 3, .int cv), (bn, 0, 0, .ref an), (bv, 0, 0, .ref av)]) [2, 1, 9, 0, 5, 7, 6, 8] rfl ht, hg_an, hg_av, jNk.rf⟩⟩, by rw [ht]; try exact hh_16.1.1, fun q h9 hq => by rw [ht]; try exact hh_16.1.2.1 q h9 hq⟩) hh_16.1.2.2 dX14_headerByte_213
              · skip
                have c_17' : a1.toInt = 10 := jb_ne_n (rfl) ((by decide)) c_17
                refine lv_iconst (v := 1) hx hb dX14_headerByte_208 (by decide) ?_
                refine lv_goto (tgt := 213) hx hb dX14_headerByte_209 (by decide) ?_
                have hsz_19 := hh_16.2.2.2.2.2.1
                have htt_19 := hh_16.2.2.2.2.2.2.1
                refine W.room (fun hrc_19 hrs_19 => ?_)
                refine W.widen (k := LC - s.heap.size) (n := LS - jTot s.heap) (by omega) (by omega) ?_
                rw [hQ]
                exact W.zret (v := 1) hx hb hr (jb_nz (Or.inr rfl)) (fun t ht hW => ⟨⟨1, (z_1, 6, pl, 0, cn, cv, an, n_an, av, n_av, G0), rfl, ⟨(Or.inr rfl), by (try dsimp only); exact ⟨(by first | omega | rfl | assumption | fail), (by first | omega | rfl | assumption | fail), (by first | omega | rfl | assumption | fail), (by first | omega | rfl | assumption | fail), (by first | omega | rfl | assumption | fail), (by first | omega | rfl | assumption | fail), (by first | omega | rfl | assumption | fail), (by first | omega | rfl | assumption | fail), (by first | omega | rfl | assumption | fail), (by first | omega | rfl | assumption | fail), (by first | omega | rfl | assumption | fail), (by first | omega | rfl | assumption | fail), (by first | omega | rfl | assumption | fail), (by first | omega | rfl | assumption | fail)⟩⟩, ⟨hh_16.ra (by first | (simp only; omega) | omega) (by first | (simp only; omega) | omega) (M1 := [(r0, 16, 12, .int z_1), (r0, 16, 11, .int 6), (r0, 16, 15, .int pl), (r0, 16, 16, .int 0), (bn, 0, 3, .int cn), (bv, 0, 3, .int cv), (bn, 0, 0, .ref an), (bv, 0, 0, .ref av)]) [2, 1, 9, 0, 5, 7, 6, 8] rfl ht, hg_an, hg_av, jNk.rf⟩⟩, by rw [ht]; try exact hh_16.1.1, fun q h9 hq => by rw [ht]; try exact hh_16.1.2.1 q h9 hq⟩) hh_16.1.2.2 dX14_headerByte_213
        · skip
          have c_6' : pm.toInt ≠ 4 := jb_eq_n (rfl) ((by decide)) c_6
          refine lv_aload_n hx hb dX14_headerByte_161 rfl (lv_at hl 0 rfl) ?_
          refine j7_read hx hb hown hK (C := RX14) (T := TX14) (N := 74) rfl hly_16_11 hlk_231 (hh_2.at 7 rfl) dX14_headerByte_162 ?_
          refine lv_iconst (v := 5) hx hb dX14_headerByte_165 (by decide) ?_
          refine lv_icmp_ne (tgt := 214) hx hb dX14_headerByte_166 (by decide) (fun c_20 => ?_) (fun c_20 => ?_)
          · skip
            have c_20' : pm.toInt ≠ 5 := jb_ne (rfl) ((by decide)) c_20
            refine lv_aload_n hx hb dX14_headerByte_214 rfl (lv_at hl 0 rfl) ?_
            refine j7_read hx hb hown hK (C := RX14) (T := TX14) (N := 74) rfl hly_16_11 hlk_231 (hh_2.at 7 rfl) dX14_headerByte_215 ?_
            refine lv_iconst (v := 2) hx hb dX14_headerByte_218 (by decide) ?_
            refine lv_icmp_ne (tgt := 230) hx hb dX14_headerByte_219 (by decide) (fun c_21 => ?_) (fun c_21 => ?_)
            · skip
              have c_21' : pm.toInt ≠ 2 := jb_ne (rfl) ((by decide)) c_21
              refine lv_aload_n hx hb dX14_headerByte_230 rfl (lv_at hl 0 rfl) ?_
              refine lv_iconst (v := 3) hx hb dX14_headerByte_231 (by decide) ?_
              refine j7_put hx hb hown hK hh_2 hB hAp hB16 (C := RX14) (T := TX14) (N := 74) rfl (by decide) hg_r0 (i := 11) (by decide) hly_16_11 rfl hlk_231 rfl (ty := .int) (v := .int 3) (by decide +kernel) rfl rfl (⟨_, rfl⟩) rfl (L1 := [(r0, 16, 12, .int z_1), (r0, 16, 13, .ref bn), (r0, 16, 14, .ref bv), (bn, 0, 3, .int cn), (bn, 0, 0, .ref an), (bv, 0, 3, .int cv), (bv, 0, 0, .ref av), (r0, 16, 15, .int pl), (r0, 16, 16, .int pb)]) [0, 1, 2, 3, 4, 5, 6, 8, 9] rfl rfl rfl dX14_headerByte_232 (fun H_22 locs_22 hh_22 => ?_)
              clear hh_2
              refine lv_iload_n hx hb dX14_headerByte_235 rfl (lv_at hl 1 rfl) ?_
              refine lv_bipush (v := 13) hx hb dX14_headerByte_236 (by decide) ?_
              refine lv_icmp_ne (tgt := 288) hx hb dX14_headerByte_238 (by decide) (fun c_23 => ?_) (fun c_23 => ?_)
              · skip
                have c_23' : a1.toInt ≠ 13 := jb_ne (rfl) ((by decide)) c_23
                refine lv_aload_n hx hb dX14_headerByte_288 rfl (lv_at hl 0 rfl) ?_
                refine j7_read hx hb hown hK (C := RX14) (T := TX14) (N := 74) rfl hly_16_14 hlk_30 (hh_22.at 3 rfl) dX14_headerByte_289 ?_
                refine lv_iload_n hx hb dX14_headerByte_292 rfl (lv_at hl 1 rfl) ?_
                refine lv_i2c hx hb dX14_headerByte_293 rfl ?_
                refine lv_topi (fun z_24 ez_24 => ?_)
                have hic := jb_i2c (by assumption) hp16 hp17
                have hsz_25 := hh_22.2.2.2.2.2.1
                have htt_25 := hh_22.2.2.2.2.2.2.1
                refine W.room (fun hrc_25 hrs_25 => ?_)
                refine j_callx (A0 := jA base) (H0 := s.heap) (va_runV (As := [.int z_24]) (rest := []) ⟨hx, hb, hml, hown, hts⟩ (uJ4_append_cf468M l dC dI ca base B hB hAp hB0 hB196 G0 H_22 bv z_24 cv av n_av LC LS) (cwV 1 hts (jgV (jWr_46 _ (List.mem_of_getElem? (i := 18) rfl)) (jWr_46 _ (List.mem_of_getElem? (i := 19) rfl)) (jWr_46 _ (List.mem_of_getElem? (i := 20) rfl)) (jWr_11 _ (List.mem_of_getElem? (i := 0) rfl)) (jWr_46 _ (List.mem_of_getElem? (i := 21) rfl))) rfl rfl rfl (by decide +kernel) ⟨by rw [← hR]; exact Nat.le_of_ble_eq_true rfl, by rw [← hR]; exact Nat.le_of_ble_eq_true rfl⟩) ⟨fun a U g mk q => by obtain ⟨q0, q1, q2, qK, q10, q11, q12, q13⟩ := q; exact ⟨q0, q1, q2, jG.calling g mk a qK, q10, q11, q12, q13⟩, hh_22.recv (C := RJ4) (T := TJ4) (N := 4) hB0 rfl (by decide) hg_bv hK, fun U hU hW => ⟨rfl, hU, hh_22.2.1, hG.step hW hU hh_22.1, hg_bv, hg_av, (hh_22.2.2.1.sub (L1 := [(bv, 0, 3, .int cv), (bv, 0, 0, .ref av)]) [6, 7] rfl), by first | omega | (refine ⟨?_, ?_, ?_, ?_, ?_, ?_⟩ <;> (first | omega | rfl | assumption | decide | exact Or.inl rfl | exact Or.inr rfl | (simp only; omega)))⟩⟩ rfl rfl hl.1 rfl (lv_room (Nat.le_of_ble_eq_true rfl)) dX14_headerByte_294 ⟨by rw [hRc]; omega, by rw [hRs]; omega⟩) hh_22.1 (fun q _ h => h) (fun q h => h) (fun r_26 u_25 t_25 H_25 locs_25 ht_25 hvm_25 hr_26 hb_25 hz_25 hk_25 hS_25 => ?_)
                obtain ⟨qc_25, qa_25, m_qa_25, G_25⟩ := u_25
                rw [ht_25] at hb_25
                simp only at hb_25
                obtain ⟨⟨hb_251, hb_252, hb_253, hb_254, hb_255, hb_256⟩, hgq_25_0, hN_25, hbO_25⟩ := hb_25
                have hh_25 : jSt (dC, dI) B base G0 G_25 EX14_headerByte s.heap (0 + (m_qa_25 - n_av)) (0 + (2 * (m_qa_25 - n_av))) [(bv, 0, 3, .int qc_25), (bv, 0, 0, .ref qa_25), (r0, 16, 11, .int 3), (r0, 16, 12, .int z_1), (r0, 16, 13, .ref bn), (r0, 16, 14, .ref bv), (r0, 16, 15, .int pl), (r0, 16, 16, .int pb)] [] [] H_25 locs_25 := (hh_22.callG hb_251 hb_252 hb_253 hb_254 hb_255 hS_25 rfl (L1 := [(r0, 16, 11, .int 3), (r0, 16, 12, .int z_1), (r0, 16, 13, .ref bn), (r0, 16, 14, .ref bv), (r0, 16, 15, .int pl), (r0, 16, 16, .int pb)]) [0, 1, 2, 3, 8, 9] rfl rfl (M1 := []) [] rfl rfl (I1 := []) [] rfl rfl).more hb_256
                have hNn_25 : (jNk [0, 1, 2, 3, 4, 5, 6, 7, 8, 9, 10, 11, 12, 13, 14, 15, 16]) G0 G_25 := (jNk.rf).tr hN_25
                have hg_27 := hb_252 _ _ hg_r0
                have hg_28 := hb_252 _ _ hg_bn
                have hg_29 := hb_252 _ _ hg_bv
                have hh_30 := hh_25.more (P1 := [(bn, 0, 3, .int cn), (bn, 0, 0, .ref an)]) (jP.cons hg_28 (hbO_25 _ _ _ _ (by first | assumption | exact Ne.symm (by assumption) | exact jnek hg_bn hg_bv (by decide)) hg_bn (hh_22.at 4 rfl)) (jP.cons hg_28 (hbO_25 _ _ _ _ (by first | assumption | exact Ne.symm (by assumption) | exact jnek hg_bn hg_bv (by decide)) hg_bn (hh_22.at 5 rfl)) jP.nil))
                have hg_31 := hb_252 _ _ hg_an
                obtain ⟨hr_26, hr_26p⟩ := hr_26
                try simp only at hr_26p
                obtain ⟨hr_26p_0, hr_26p_1, hr_26p_2, hr_26p_3, hr_26p_4⟩ := hr_26p
                obtain ⟨ret_32, rfl, hg_ret_32⟩ := hr_26
                have hg_33 := hb_252 _ _ hg_ret_32
                refine lv_pop hx hb dX14_headerByte_297 rfl ?_
                refine lv_iload_n hx hb dX14_headerByte_298 rfl (lv_at hl 1 rfl) ?_
                refine lv_bipush (v := 32) hx hb dX14_headerByte_299 (by decide) ?_
                refine lv_bipush (v := 126) hx hb dX14_headerByte_301 (by decide) ?_
                have hsz_34 := hh_30.2.2.2.2.2.1
                have htt_34 := hh_30.2.2.2.2.2.2.1
                refine W.room (fun hrc_34 hrs_34 => ?_)
                refine va_calli (A0 := jA base) (H0 := s.heap) (va_runS (As := [.int a1, .int 32, .int 126]) (rest := []) ⟨hx, hb, hml, hown, hts⟩ (uX14_in l dC dI ca base B hB hAp G_25 H_25 a1 32 126) (va_cwS 3 hts (jgS (jWr_48 _ (List.mem_of_getElem? (i := 10) rfl)) (jWr_48 _ (List.mem_of_getElem? (i := 11) rfl)) (jWr_1 _ (List.mem_of_getElem? (i := 5) rfl)) (jWr_48 _ (List.mem_of_getElem? (i := 12) rfl))) rfl rfl rfl (by decide +kernel) ⟨by rw [← hR]; exact Nat.le_of_ble_eq_true rfl, by rw [← hR]; exact Nat.le_of_ble_eq_true rfl⟩) ⟨fun a U g mk q => by obtain ⟨q0, q1, q2, qK, q10, q11⟩ := q; exact ⟨q0, q1, q2, jG.calling g mk a qK, q10, q11⟩, fun U hU hW => ⟨rfl, hU, hh_30.2.1, hG.step hW hU hh_30.1, jP.nil, trivial⟩⟩ rfl rfl hl.1 rfl (lv_room (Nat.le_of_ble_eq_true rfl)) dX14_headerByte_303 ⟨by rw [hRc]; show _ + 0 ≤ _; omega, by rw [hRs]; show _ + 0 ≤ _; omega⟩) hh_30.1 (fun q _ h => h) (fun q h => h) (fun r_35 u_34 t_34 H_34 locs_34 ht_34 hvm_34 hr_35 hb_34 hz_34 hk_34 hS_34 => ?_)
                rw [ht_34] at hb_34
                obtain ⟨hb_341, hb_342, hb_343, hb_344, hb_345⟩ := hb_34
                have hh_34 : jSt (dC, dI) B base G0 G_25 EX14_headerByte s.heap (0 + (m_qa_25 - n_av)) (0 + (2 * (m_qa_25 - n_av))) [(bn, 0, 3, .int cn), (bn, 0, 0, .ref an), (bv, 0, 3, .int qc_25), (bv, 0, 0, .ref qa_25), (r0, 16, 11, .int 3), (r0, 16, 12, .int z_1), (r0, 16, 13, .ref bn), (r0, 16, 14, .ref bv), (r0, 16, 15, .int pl), (r0, 16, 16, .int pb)] [] [] H_34 locs_34 := ((hh_30.call hb_341 hb_342 hb_343 hb_344 hS_34 rfl (L1 := [(bn, 0, 3, .int cn), (bn, 0, 0, .ref an), (bv, 0, 3, .int qc_25), (bv, 0, 0, .ref qa_25), (r0, 16, 11, .int 3), (r0, 16, 12, .int z_1), (r0, 16, 13, .ref bn), (r0, 16, 14, .ref bv), (r0, 16, 15, .int pl), (r0, 16, 16, .int pb)]) [0, 1, 2, 3, 4, 5, 6, 7, 8, 9] rfl rfl (M1 := []) [] rfl rfl (I1 := []) [] rfl rfl).more hb_345)
                clear hh_30 ht_34 hvm_34 hz_34 hk_34 hS_34 hb_341 hb_342 hb_343 hb_344 hb_345
                obtain ⟨hr_35b, hr_35p⟩ := hr_35
                obtain ⟨hr_35p_0, hr_35p_1, hr_35p_2⟩ := hr_35p
                have hr_35' := jb_01 hr_35b
                refine lv_if_eq (tgt := 328) hx hb dX14_headerByte_306 (by decide) (fun c_36 => ?_) (fun c_36 => ?_)
                · skip
                  have c_36' : r_35.toInt = 0 := jb_eq (rfl) ((by decide)) c_36
                  refine lv_iconst (v := 0) hx hb dX14_headerByte_328 (by decide) ?_
                  have hsz_37 := hh_34.2.2.2.2.2.1
                  have htt_37 := hh_34.2.2.2.2.2.2.1
                  refine W.room (fun hrc_37 hrs_37 => ?_)
                  refine W.widen (k := LC - s.heap.size) (n := LS - jTot s.heap) (by omega) (by omega) ?_
                  rw [hQ]
                  exact W.zret (v := 0) hx hb hr (jb_nz (Or.inl rfl)) (fun t ht hW => ⟨⟨0, (z_1, 3, pl, pb, cn, qc_25, an, n_an, qa_25, m_qa_25, G_25), rfl, ⟨(Or.inl rfl), by (try dsimp only); exact ⟨(by first | omega | rfl | assumption | fail), (by first | omega | rfl | assumption | fail), (by first | omega | rfl | assumption | fail), (by first | omega | rfl | assumption | fail), (by first | omega | rfl | assumption | fail), (by first | omega | rfl | assumption | fail), (by first | omega | rfl | assumption | fail), (by first | omega | rfl | assumption | fail), (by first | omega | rfl | assumption | fail), (by first | omega | rfl | assumption | fail), (by first | omega | rfl | assumption | fail), (by first | omega | rfl | assumption | fail), (by first | omega | rfl | assumption | fail), (by first | omega | rfl | assumption | fail)⟩⟩, ⟨hh_34.ra (by first | (simp only; omega) | omega) (by first | (simp only; omega) | omega) (M1 := [(r0, 16, 12, .int z_1), (r0, 16, 11, .int 3), (r0, 16, 15, .int pl), (r0, 16, 16, .int pb), (bn, 0, 3, .int cn), (bv, 0, 3, .int qc_25), (bn, 0, 0, .ref an), (bv, 0, 0, .ref qa_25)]) [5, 4, 8, 9, 0, 2, 1, 3] rfl ht, hg_31, hgq_25_0, hNn_25⟩⟩, by rw [ht]; try exact hh_34.1.1, fun q h9 hq => by rw [ht]; try exact hh_34.1.2.1 q h9 hq⟩) hh_34.1.2.2 dX14_headerByte_329
                · skip
                  have c_36' : r_35.toInt ≠ 0 := jb_eq_n (rfl) ((by decide)) c_36
                  refine lv_aload_n hx hb dX14_headerByte_309 rfl (lv_at hl 0 rfl) ?_
                  obtain ⟨f_fv_40, hh_40⟩ := hh_34.cpin hB196 (by decide) (by decide) hg_31
                  clear hh_34
                  have hsz_38 := hh_40.2.2.2.2.2.1
                  have htt_38 := hh_40.2.2.2.2.2.2.1
                  refine W.room (fun hrc_38 hrs_38 => ?_)
                  refine va_calli (A0 := jA base) (H0 := s.heap) (va_runV (As := []) (rest := []) ⟨hx, hb, hml, hown, hts⟩ (uX14_isContentLength l dC dI ca base B hB hAp hB0 hB16 hB196 G_25 H_34 r0 bn cn an n_an f_fv_40) (cwV 0 hts (jgV (jWr_48 _ (List.mem_of_getElem? (i := 13) rfl)) (jWr_48 _ (List.mem_of_getElem? (i := 14) rfl)) (jWr_48 _ (List.mem_of_getElem? (i := 15) rfl)) (jWr_1 _ (List.mem_of_getElem? (i := 5) rfl)) (jWr_48 _ (List.mem_of_getElem? (i := 16) rfl))) rfl rfl rfl (by decide +kernel) ⟨by rw [← hR]; exact Nat.le_of_ble_eq_true rfl, by rw [← hR]; exact Nat.le_of_ble_eq_true rfl⟩) ⟨fun a U g mk q => by obtain ⟨q0, q1, q2, qK, q10, q11, q12, q13, q14, q15⟩ := q; exact ⟨q0, q1, q2, jG.calling g mk a qK, q10, q11, q12, q13, q14, q15⟩, hh_40.recv (C := RX14) (T := TX14) (N := 74) hB16 rfl (by decide) hg_27 hK, fun U hU hW => ⟨rfl, hU, hh_40.2.1, hG.step hW hU hh_40.1, hg_27, hg_28, hg_31, (hh_40.2.2.1.sub (L1 := [(r0, 16, 13, .ref bn), (bn, 0, 3, .int cn), (bn, 0, 0, .ref an)]) [6, 0, 1] rfl), (hh_40.2.2.2.2.2.2.2.1.sub (L1 := [(an, 196, n_an, ca 0, f_fv_40)]) [0] rfl), by first | omega | (refine ⟨?_, ?_, ?_⟩ <;> (first | omega | rfl | assumption | decide | exact Or.inl rfl | exact Or.inr rfl | (simp only; omega)))⟩⟩ rfl rfl hl.1 rfl (lv_room (Nat.le_of_ble_eq_true rfl)) dX14_headerByte_310 ⟨by rw [hRc]; show _ + 0 ≤ _; omega, by rw [hRs]; show _ + 0 ≤ _; omega⟩) hh_40.1 (fun q _ h => h) (fun q h => h) (fun r_39 u_38 t_38 H_38 locs_38 ht_38 hvm_38 hr_39 hb_38 hz_38 hk_38 hS_38 => ?_)
                  rw [ht_38] at hb_38
                  obtain ⟨hb_381, hb_382, hb_383, hb_384, hb_385⟩ := hb_38
                  have hh_38 : jSt (dC, dI) B base G0 G_25 EX14_headerByte s.heap (0 + (m_qa_25 - n_av)) (0 + (2 * (m_qa_25 - n_av))) [(bn, 0, 3, .int cn), (bn, 0, 0, .ref an), (bv, 0, 3, .int qc_25), (bv, 0, 0, .ref qa_25), (r0, 16, 11, .int 3), (r0, 16, 12, .int z_1), (r0, 16, 13, .ref bn), (r0, 16, 14, .ref bv), (r0, 16, 15, .int pl), (r0, 16, 16, .int pb)] [(an, 196, n_an, ca 0, f_fv_40)] [] H_38 locs_38 := ((hh_40.call hb_381 hb_382 hb_383 hb_384 hS_38 rfl (L1 := [(bn, 0, 3, .int cn), (bn, 0, 0, .ref an), (bv, 0, 3, .int qc_25), (bv, 0, 0, .ref qa_25), (r0, 16, 11, .int 3), (r0, 16, 12, .int z_1), (r0, 16, 13, .ref bn), (r0, 16, 14, .ref bv), (r0, 16, 15, .int pl), (r0, 16, 16, .int pb)]) [0, 1, 2, 3, 4, 5, 6, 7, 8, 9] rfl rfl (M1 := [(an, 196, n_an, ca 0, f_fv_40)]) [0] rfl rfl (I1 := []) [] rfl rfl).more hb_385)
                  clear hh_40 ht_38 hvm_38 hz_38 hk_38 hS_38 hb_381 hb_382 hb_383 hb_384 hb_385
                  obtain ⟨hr_39b, hr_39p⟩ := hr_39
                  have hr_39' := jb_01 hr_39b
                  refine lv_if_eq (tgt := 324) hx hb dX14_headerByte_313 (by decide) (fun c_41 => ?_) (fun c_41 => ?_)
                  · skip
                    have c_41' : r_39.toInt = 0 := jb_eq (rfl) ((by decide)) c_41
                    refine lv_iconst (v := 1) hx hb dX14_headerByte_324 (by decide) ?_
                    refine lv_goto (tgt := 329) hx hb dX14_headerByte_325 (by decide) ?_
                    have hsz_42 := hh_38.2.2.2.2.2.1
                    have htt_42 := hh_38.2.2.2.2.2.2.1
                    refine W.room (fun hrc_42 hrs_42 => ?_)
                    refine W.widen (k := LC - s.heap.size) (n := LS - jTot s.heap) (by omega) (by omega) ?_
                    rw [hQ]
                    exact W.zret (v := 1) hx hb hr (jb_nz (Or.inr rfl)) (fun t ht hW => ⟨⟨1, (z_1, 3, pl, pb, cn, qc_25, an, n_an, qa_25, m_qa_25, G_25), rfl, ⟨(Or.inr rfl), by (try dsimp only); exact ⟨(by first | omega | rfl | assumption | fail), (by first | omega | rfl | assumption | fail), (by first | omega | rfl | assumption | fail), (by first | omega | rfl | assumption | fail), (by first | omega | rfl | assumption | fail), (by first | omega | rfl | assumption | fail), (by first | omega | rfl | assumption | fail), (by first | omega | rfl | assumption | fail), (by first | omega | rfl | assumption | fail), (by first | omega | rfl | assumption | fail), (by first | omega | rfl | assumption | fail), (by first | omega | rfl | assumption | fail), (by first | omega | rfl | assumption | fail), (by first | omega | rfl | assumption | fail)⟩⟩, ⟨hh_38.ra (by first | (simp only; omega) | omega) (by first | (simp only; omega) | omega) (M1 := [(r0, 16, 12, .int z_1), (r0, 16, 11, .int 3), (r0, 16, 15, .int pl), (r0, 16, 16, .int pb), (bn, 0, 3, .int cn), (bv, 0, 3, .int qc_25), (bn, 0, 0, .ref an), (bv, 0, 0, .ref qa_25)]) [5, 4, 8, 9, 0, 2, 1, 3] rfl ht, hg_31, hgq_25_0, hNn_25⟩⟩, by rw [ht]; try exact hh_38.1.1, fun q h9 hq => by rw [ht]; try exact hh_38.1.2.1 q h9 hq⟩) hh_38.1.2.2 dX14_headerByte_329
                  · skip
                    have c_41' : r_39.toInt ≠ 0 := jb_eq_n (rfl) ((by decide)) c_41
                    refine lv_aload_n hx hb dX14_headerByte_316 rfl (lv_at hl 0 rfl) ?_
                    refine lv_iconst (v := 0) hx hb dX14_headerByte_317 (by decide) ?_
                    obtain ⟨f_fv_45, hh_45⟩ := hh_38.cpin hB196 (by decide) (by decide) hgq_25_0
                    clear hh_38
                    have hsz_43 := hh_45.2.2.2.2.2.1
                    have htt_43 := hh_45.2.2.2.2.2.2.1
                    refine W.room (fun hrc_43 hrs_43 => ?_)
                    refine va_calli (A0 := jA base) (H0 := s.heap) (va_runV (As := [.int 0]) (rest := []) ⟨hx, hb, hml, hown, hts⟩ (uX14_isLengthSoFar l dC dI ca base B hB hAp hB0 hB16 hB196 G_25 H_38 r0 0 bv qc_25 qa_25 m_qa_25 f_fv_45) (cwV 1 hts (jgV (jWr_49 _ (List.mem_of_getElem? (i := 14) rfl)) (jWr_49 _ (List.mem_of_getElem? (i := 15) rfl)) (jWr_49 _ (List.mem_of_getElem? (i := 16) rfl)) (jWr_1 _ (List.mem_of_getElem? (i := 5) rfl)) (jWr_49 _ (List.mem_of_getElem? (i := 17) rfl))) rfl rfl rfl (by decide +kernel) ⟨by rw [← hR]; exact Nat.le_of_ble_eq_true rfl, by rw [← hR]; exact Nat.le_of_ble_eq_true rfl⟩) ⟨fun a U g mk q => by obtain ⟨q0, q1, q2, qK, q10, q11, q12, q13, q14, q15, q16⟩ := q; exact ⟨q0, q1, q2, jG.calling g mk a qK, q10, q11, q12, q13, q14, q15, q16⟩, hh_45.recv (C := RX14) (T := TX14) (N := 74) hB16 rfl (by decide) hg_27 hK, fun U hU hW => ⟨rfl, hU, hh_45.2.1, hG.step hW hU hh_45.1, hg_27, (Or.inl rfl), hg_29, hgq_25_0, (hh_45.2.2.1.sub (L1 := [(r0, 16, 14, .ref bv), (bv, 0, 3, .int qc_25), (bv, 0, 0, .ref qa_25)]) [7, 2, 3] rfl), (hh_45.2.2.2.2.2.2.2.1.sub (L1 := [(qa_25, 196, m_qa_25, ca 0, f_fv_45)]) [0] rfl), by first | omega | (refine ⟨?_, ?_, ?_⟩ <;> (first | omega | rfl | assumption | decide | exact Or.inl rfl | exact Or.inr rfl | (simp only; omega)))⟩⟩ rfl rfl hl.1 rfl (lv_room (Nat.le_of_ble_eq_true rfl)) dX14_headerByte_318 ⟨by rw [hRc]; show _ + 0 ≤ _; omega, by rw [hRs]; show _ + 0 ≤ _; omega⟩) hh_45.1 (fun q _ h => h) (fun q h => h) (fun r_44 u_43 t_43 H_43 locs_43 ht_43 hvm_43 hr_44 hb_43 hz_43 hk_43 hS_43 => ?_)
                    rw [ht_43] at hb_43
                    obtain ⟨hb_431, hb_432, hb_433, hb_434, hb_435⟩ := hb_43
                    have hh_43 : jSt (dC, dI) B base G0 G_25 EX14_headerByte s.heap (0 + (m_qa_25 - n_av)) (0 + (2 * (m_qa_25 - n_av))) [(bn, 0, 3, .int cn), (bn, 0, 0, .ref an), (bv, 0, 3, .int qc_25), (bv, 0, 0, .ref qa_25), (r0, 16, 11, .int 3), (r0, 16, 12, .int z_1), (r0, 16, 13, .ref bn), (r0, 16, 14, .ref bv), (r0, 16, 15, .int pl), (r0, 16, 16, .int pb)] [(qa_25, 196, m_qa_25, ca 0, f_fv_45), (an, 196, n_an, ca 0, f_fv_40)] [] H_43 locs_43 := ((hh_45.call hb_431 hb_432 hb_433 hb_434 hS_43 rfl (L1 := [(bn, 0, 3, .int cn), (bn, 0, 0, .ref an), (bv, 0, 3, .int qc_25), (bv, 0, 0, .ref qa_25), (r0, 16, 11, .int 3), (r0, 16, 12, .int z_1), (r0, 16, 13, .ref bn), (r0, 16, 14, .ref bv), (r0, 16, 15, .int pl), (r0, 16, 16, .int pb)]) [0, 1, 2, 3, 4, 5, 6, 7, 8, 9] rfl rfl (M1 := [(qa_25, 196, m_qa_25, ca 0, f_fv_45), (an, 196, n_an, ca 0, f_fv_40)]) [0, 1] rfl rfl (I1 := []) [] rfl rfl).more hb_435)
                    clear hh_45 ht_43 hvm_43 hz_43 hk_43 hS_43 hb_431 hb_432 hb_433 hb_434 hb_435
                    obtain ⟨hr_44b, hr_44p⟩ := hr_44
                    obtain ⟨hr_44p_0, hr_44p_1, hr_44p_2⟩ := hr_44p
                    have hr_44' := jb_01 hr_44b
                    refine lv_if_eq (tgt := 328) hx hb dX14_headerByte_321 (by decide) (fun c_46 => ?_) (fun c_46 => ?_)
                    · skip
                      have c_46' : r_44.toInt = 0 := jb_eq (rfl) ((by decide)) c_46
                      refine lv_iconst (v := 0) hx hb dX14_headerByte_328 (by decide) ?_
                      have hsz_47 := hh_43.2.2.2.2.2.1
                      have htt_47 := hh_43.2.2.2.2.2.2.1
                      refine W.room (fun hrc_47 hrs_47 => ?_)
                      refine W.widen (k := LC - s.heap.size) (n := LS - jTot s.heap) (by omega) (by omega) ?_
                      rw [hQ]
                      exact W.zret (v := 0) hx hb hr (jb_nz (Or.inl rfl)) (fun t ht hW => ⟨⟨0, (z_1, 3, pl, pb, cn, qc_25, an, n_an, qa_25, m_qa_25, G_25), rfl, ⟨(Or.inl rfl), by (try dsimp only); exact ⟨(by first | omega | rfl | assumption | fail), (by first | omega | rfl | assumption | fail), (by first | omega | rfl | assumption | fail), (by first | omega | rfl | assumption | fail), (by first | omega | rfl | assumption | fail), (by first | omega | rfl | assumption | fail), (by first | omega | rfl | assumption | fail), (by first | omega | rfl | assumption | fail), (by first | omega | rfl | assumption | fail), (by first | omega | rfl | assumption | fail), (by first | omega | rfl | assumption | fail), (by first | omega | rfl | assumption | fail), (by first | omega | rfl | assumption | fail), (by first | omega | rfl | assumption | fail)⟩⟩, ⟨hh_43.ra (by first | (simp only; omega) | omega) (by first | (simp only; omega) | omega) (M1 := [(r0, 16, 12, .int z_1), (r0, 16, 11, .int 3), (r0, 16, 15, .int pl), (r0, 16, 16, .int pb), (bn, 0, 3, .int cn), (bv, 0, 3, .int qc_25), (bn, 0, 0, .ref an), (bv, 0, 0, .ref qa_25)]) [5, 4, 8, 9, 0, 2, 1, 3] rfl ht, hg_31, hgq_25_0, hNn_25⟩⟩, by rw [ht]; try exact hh_43.1.1, fun q h9 hq => by rw [ht]; try exact hh_43.1.2.1 q h9 hq⟩) hh_43.1.2.2 dX14_headerByte_329
                    · skip
                      have c_46' : r_44.toInt ≠ 0 := jb_eq_n (rfl) ((by decide)) c_46
                      refine lv_iconst (v := 1) hx hb dX14_headerByte_324 (by decide) ?_
                      refine lv_goto (tgt := 329) hx hb dX14_headerByte_325 (by decide) ?_
                      have hsz_48 := hh_43.2.2.2.2.2.1
                      have htt_48 := hh_43.2.2.2.2.2.2.1
                      refine W.room (fun hrc_48 hrs_48 => ?_)
                      refine W.widen (k := LC - s.heap.size) (n := LS - jTot s.heap) (by omega) (by omega) ?_
                      rw [hQ]
                      exact W.zret (v := 1) hx hb hr (jb_nz (Or.inr rfl)) (fun t ht hW => ⟨⟨1, (z_1, 3, pl, pb, cn, qc_25, an, n_an, qa_25, m_qa_25, G_25), rfl, ⟨(Or.inr rfl), by (try dsimp only); exact ⟨(by first | omega | rfl | assumption | fail), (by first | omega | rfl | assumption | fail), (by first | omega | rfl | assumption | fail), (by first | omega | rfl | assumption | fail), (by first | omega | rfl | assumption | fail), (by first | omega | rfl | assumption | fail), (by first | omega | rfl | assumption | fail), (by first | omega | rfl | assumption | fail), (by first | omega | rfl | assumption | fail), (by first | omega | rfl | assumption | fail), (by first | omega | rfl | assumption | fail), (by first | omega | rfl | assumption | fail), (by first | omega | rfl | assumption | fail), (by first | omega | rfl | assumption | fail)⟩⟩, ⟨hh_43.ra (by first | (simp only; omega) | omega) (by first | (simp only; omega) | omega) (M1 := [(r0, 16, 12, .int z_1), (r0, 16, 11, .int 3), (r0, 16, 15, .int pl), (r0, 16, 16, .int pb), (bn, 0, 3, .int cn), (bv, 0, 3, .int qc_25), (bn, 0, 0, .ref an), (bv, 0, 0, .ref qa_25)]) [5, 4, 8, 9, 0, 2, 1, 3] rfl ht, hg_31, hgq_25_0, hNn_25⟩⟩, by rw [ht]; try exact hh_43.1.1, fun q h9 hq => by rw [ht]; try exact hh_43.1.2.1 q h9 hq⟩) hh_43.1.2.2 dX14_headerByte_329
              · skip
                have c_23' : a1.toInt = 13 := jb_ne_n (rfl) ((by decide)) c_23
                refine lv_aload_n hx hb dX14_headerByte_241 rfl (lv_at hl 0 rfl) ?_
                refine lv_iconst (v := 4) hx hb dX14_headerByte_242 (by decide) ?_
                refine j7_put hx hb hown hK hh_22 hB hAp hB16 (C := RX14) (T := TX14) (N := 74) rfl (by decide) hg_r0 (i := 11) (by decide) hly_16_11 rfl hlk_231 rfl (ty := .int) (v := .int 4) (by decide +kernel) rfl rfl (⟨_, rfl⟩) rfl (L1 := [(r0, 16, 12, .int z_1), (r0, 16, 13, .ref bn), (r0, 16, 14, .ref bv), (bn, 0, 3, .int cn), (bn, 0, 0, .ref an), (bv, 0, 3, .int cv), (bv, 0, 0, .ref av), (r0, 16, 15, .int pl), (r0, 16, 16, .int pb)]) [1, 2, 3, 4, 5, 6, 7, 8, 9] rfl rfl rfl dX14_headerByte_243 (fun H_49 locs_49 hh_49 => ?_)
                clear hh_22
                refine lv_aload_n hx hb dX14_headerByte_246 rfl (lv_at hl 0 rfl) ?_
                obtain ⟨f_fv_52, hh_52⟩ := hh_49.cpin hB196 (by decide) (by decide) hg_an
                clear hh_49
                have hsz_50 := hh_52.2.2.2.2.2.1
                have htt_50 := hh_52.2.2.2.2.2.2.1
                refine W.room (fun hrc_50 hrs_50 => ?_)
                refine va_calli (A0 := jA base) (H0 := s.heap) (va_runV (As := []) (rest := []) ⟨hx, hb, hml, hown, hts⟩ (uX14_isContentLength l dC dI ca base B hB hAp hB0 hB16 hB196 G0 H_49 r0 bn cn an n_an f_fv_52) (cwV 0 hts (jgV (jWr_48 _ (List.mem_of_getElem? (i := 13) rfl)) (jWr_48 _ (List.mem_of_getElem? (i := 14) rfl)) (jWr_48 _ (List.mem_of_getElem? (i := 15) rfl)) (jWr_1 _ (List.mem_of_getElem? (i := 5) rfl)) (jWr_48 _ (List.mem_of_getElem? (i := 16) rfl))) rfl rfl rfl (by decide +kernel) ⟨by rw [← hR]; exact Nat.le_of_ble_eq_true rfl, by rw [← hR]; exact Nat.le_of_ble_eq_true rfl⟩) ⟨fun a U g mk q => by obtain ⟨q0, q1, q2, qK, q10, q11, q12, q13, q14, q15⟩ := q; exact ⟨q0, q1, q2, jG.calling g mk a qK, q10, q11, q12, q13, q14, q15⟩, hh_52.recv (C := RX14) (T := TX14) (N := 74) hB16 rfl (by decide) hg_r0 hK, fun U hU hW => ⟨rfl, hU, hh_52.2.1, hG.step hW hU hh_52.1, hg_r0, hg_bn, hg_an, (hh_52.2.2.1.sub (L1 := [(r0, 16, 13, .ref bn), (bn, 0, 3, .int cn), (bn, 0, 0, .ref an)]) [2, 4, 5] rfl), (hh_52.2.2.2.2.2.2.2.1.sub (L1 := [(an, 196, n_an, ca 0, f_fv_52)]) [0] rfl), by first | omega | (refine ⟨?_, ?_, ?_⟩ <;> (first | omega | rfl | assumption | decide | exact Or.inl rfl | exact Or.inr rfl | (simp only; omega)))⟩⟩ rfl rfl hl.1 rfl (lv_room (Nat.le_of_ble_eq_true rfl)) dX14_headerByte_247 ⟨by rw [hRc]; show _ + 0 ≤ _; omega, by rw [hRs]; show _ + 0 ≤ _; omega⟩) hh_52.1 (fun q _ h => h) (fun q h => h) (fun r_51 u_50 t_50 H_50 locs_50 ht_50 hvm_50 hr_51 hb_50 hz_50 hk_50 hS_50 => ?_)
                rw [ht_50] at hb_50
                obtain ⟨hb_501, hb_502, hb_503, hb_504, hb_505⟩ := hb_50
                have hh_50 : jSt (dC, dI) B base G0 G0 EX14_headerByte s.heap 0 0 [(r0, 16, 11, .int 4), (r0, 16, 12, .int z_1), (r0, 16, 13, .ref bn), (r0, 16, 14, .ref bv), (bn, 0, 3, .int cn), (bn, 0, 0, .ref an), (bv, 0, 3, .int cv), (bv, 0, 0, .ref av), (r0, 16, 15, .int pl), (r0, 16, 16, .int pb)] [(an, 196, n_an, ca 0, f_fv_52)] [] H_50 locs_50 := ((hh_52.call hb_501 hb_502 hb_503 hb_504 hS_50 rfl (L1 := [(r0, 16, 11, .int 4), (r0, 16, 12, .int z_1), (r0, 16, 13, .ref bn), (r0, 16, 14, .ref bv), (bn, 0, 3, .int cn), (bn, 0, 0, .ref an), (bv, 0, 3, .int cv), (bv, 0, 0, .ref av), (r0, 16, 15, .int pl), (r0, 16, 16, .int pb)]) [0, 1, 2, 3, 4, 5, 6, 7, 8, 9] rfl rfl (M1 := [(an, 196, n_an, ca 0, f_fv_52)]) [0] rfl rfl (I1 := []) [] rfl rfl).more hb_505)
                clear hh_52 ht_50 hvm_50 hz_50 hk_50 hS_50 hb_501 hb_502 hb_503 hb_504 hb_505
                obtain ⟨hr_51b, hr_51p⟩ := hr_51
                have hr_51' := jb_01 hr_51b
                refine lv_if_ne (tgt := 255) hx hb dX14_headerByte_250 (by decide) (fun c_53 => ?_) (fun c_53 => ?_)
                · skip
                  have c_53' : r_51.toInt ≠ 0 := jb_ne (rfl) ((by decide)) c_53
                  refine lv_aload_n hx hb dX14_headerByte_255 rfl (lv_at hl 0 rfl) ?_
                  refine lv_aload_n hx hb dX14_headerByte_256 rfl (lv_at hl 0 rfl) ?_
                  refine lv_iconst (v := 1) hx hb dX14_headerByte_257 (by decide) ?_
                  obtain ⟨f_fv_56, hh_56⟩ := hh_50.cpin hB196 (by decide) (by decide) hg_av
                  clear hh_50
                  have hsz_54 := hh_56.2.2.2.2.2.1
                  have htt_54 := hh_56.2.2.2.2.2.2.1
                  refine W.room (fun hrc_54 hrs_54 => ?_)
                  refine va_calli (A0 := jA base) (H0 := s.heap) (va_runV (As := [.int 1]) (rest := [.ref r0]) ⟨hx, hb, hml, hown, hts⟩ (uX14_isLengthSoFar l dC dI ca base B hB hAp hB0 hB16 hB196 G0 H_50 r0 1 bv cv av n_av f_fv_56) (cwV 1 hts (jgV (jWr_49 _ (List.mem_of_getElem? (i := 14) rfl)) (jWr_49 _ (List.mem_of_getElem? (i := 15) rfl)) (jWr_49 _ (List.mem_of_getElem? (i := 16) rfl)) (jWr_1 _ (List.mem_of_getElem? (i := 5) rfl)) (jWr_49 _ (List.mem_of_getElem? (i := 17) rfl))) rfl rfl rfl (by decide +kernel) ⟨by rw [← hR]; exact Nat.le_of_ble_eq_true rfl, by rw [← hR]; exact Nat.le_of_ble_eq_true rfl⟩) ⟨fun a U g mk q => by obtain ⟨q0, q1, q2, qK, q10, q11, q12, q13, q14, q15, q16⟩ := q; exact ⟨q0, q1, q2, jG.calling g mk a qK, q10, q11, q12, q13, q14, q15, q16⟩, hh_56.recv (C := RX14) (T := TX14) (N := 74) hB16 rfl (by decide) hg_r0 hK, fun U hU hW => ⟨rfl, hU, hh_56.2.1, hG.step hW hU hh_56.1, hg_r0, (Or.inr rfl), hg_bv, hg_av, (hh_56.2.2.1.sub (L1 := [(r0, 16, 14, .ref bv), (bv, 0, 3, .int cv), (bv, 0, 0, .ref av)]) [3, 6, 7] rfl), (hh_56.2.2.2.2.2.2.2.1.sub (L1 := [(av, 196, n_av, ca 0, f_fv_56)]) [0] rfl), by first | omega | (refine ⟨?_, ?_, ?_⟩ <;> (first | omega | rfl | assumption | decide | exact Or.inl rfl | exact Or.inr rfl | (simp only; omega)))⟩⟩ rfl rfl hl.1 rfl (lv_room (Nat.le_of_ble_eq_true rfl)) dX14_headerByte_258 ⟨by rw [hRc]; show _ + 0 ≤ _; omega, by rw [hRs]; show _ + 0 ≤ _; omega⟩) hh_56.1 (fun q _ h => h) (fun q h => h) (fun r_55 u_54 t_54 H_54 locs_54 ht_54 hvm_54 hr_55 hb_54 hz_54 hk_54 hS_54 => ?_)
                  rw [ht_54] at hb_54
                  obtain ⟨hb_541, hb_542, hb_543, hb_544, hb_545⟩ := hb_54
                  have hh_54 : jSt (dC, dI) B base G0 G0 EX14_headerByte s.heap 0 0 [(r0, 16, 11, .int 4), (r0, 16, 12, .int z_1), (r0, 16, 13, .ref bn), (r0, 16, 14, .ref bv), (bn, 0, 3, .int cn), (bn, 0, 0, .ref an), (bv, 0, 3, .int cv), (bv, 0, 0, .ref av), (r0, 16, 15, .int pl), (r0, 16, 16, .int pb)] [(av, 196, n_av, ca 0, f_fv_56), (an, 196, n_an, ca 0, f_fv_52)] [] H_54 locs_54 := ((hh_56.call hb_541 hb_542 hb_543 hb_544 hS_54 rfl (L1 := [(r0, 16, 11, .int 4), (r0, 16, 12, .int z_1), (r0, 16, 13, .ref bn), (r0, 16, 14, .ref bv), (bn, 0, 3, .int cn), (bn, 0, 0, .ref an), (bv, 0, 3, .int cv), (bv, 0, 0, .ref av), (r0, 16, 15, .int pl), (r0, 16, 16, .int pb)]) [0, 1, 2, 3, 4, 5, 6, 7, 8, 9] rfl rfl (M1 := [(av, 196, n_av, ca 0, f_fv_56), (an, 196, n_an, ca 0, f_fv_52)]) [0, 1] rfl rfl (I1 := []) [] rfl rfl).more hb_545)
                  clear hh_56 ht_54 hvm_54 hz_54 hk_54 hS_54 hb_541 hb_542 hb_543 hb_544 hb_545
                  obtain ⟨hr_55b, hr_55p⟩ := hr_55
                  obtain ⟨hr_55p_0, hr_55p_1, hr_55p_2⟩ := hr_55p
                  have hr_55' := jb_01 hr_55b
                  refine lv_if_eq (tgt := 271) hx hb dX14_headerByte_261 (by decide) (fun c_57 => ?_) (fun c_57 => ?_)
                  · skip
                    have c_57' : r_55.toInt = 0 := jb_eq (rfl) ((by decide)) c_57
                    refine lv_iconst (v := (-1)) hx hb dX14_headerByte_271 (by decide) ?_
                    refine j7_put hx hb hown hK hh_54 hB hAp hB16 (C := RX14) (T := TX14) (N := 74) rfl (by decide) hg_r0 (i := 15) (by decide) hly_16_15 rfl hlk_33 rfl (ty := .int) (v := .int (-1)) (by decide +kernel) rfl rfl (⟨_, rfl, by omega, by omega⟩) rfl (L1 := [(r0, 16, 11, .int 4), (r0, 16, 12, .int z_1), (r0, 16, 13, .ref bn), (r0, 16, 14, .ref bv), (bn, 0, 3, .int cn), (bn, 0, 0, .ref an), (bv, 0, 3, .int cv), (bv, 0, 0, .ref av), (r0, 16, 16, .int pb)]) [0, 1, 2, 3, 4, 5, 6, 7, 9] rfl rfl rfl dX14_headerByte_272 (fun H_58 locs_58 hh_58 => ?_)
                    clear hh_54
                    refine lv_aload_n hx hb dX14_headerByte_275 rfl (lv_at hl 0 rfl) ?_
                    refine j7_read hx hb hown hK (C := RX14) (T := TX14) (N := 74) rfl hly_16_15 hlk_33 (hh_58.at 0 rfl) dX14_headerByte_276 ?_
                    refine lv_if_lt (tgt := 286) hx hb dX14_headerByte_279 (by decide) (fun c_59 => ?_) (fun c_59 => ?_)
                    · skip
                      refine lv_iconst (v := 0) hx hb dX14_headerByte_286 (by decide) ?_
                      have hsz_60 := hh_58.2.2.2.2.2.1
                      have htt_60 := hh_58.2.2.2.2.2.2.1
                      refine W.room (fun hrc_60 hrs_60 => ?_)
                      refine W.widen (k := LC - s.heap.size) (n := LS - jTot s.heap) (by omega) (by omega) ?_
                      rw [hQ]
                      exact W.zret (v := 0) hx hb hr (jb_nz (Or.inl rfl)) (fun t ht hW => ⟨⟨0, (z_1, 4, (-1), pb, cn, cv, an, n_an, av, n_av, G0), rfl, ⟨(Or.inl rfl), by (try dsimp only); exact ⟨(by first | omega | rfl | assumption | fail), (by first | omega | rfl | assumption | fail), (by first | omega | rfl | assumption | fail), (by first | omega | rfl | assumption | fail), (by first | omega | rfl | assumption | fail), (by first | omega | rfl | assumption | fail), (by first | omega | rfl | assumption | fail), (by first | omega | rfl | assumption | fail), (by first | omega | rfl | assumption | fail), (by first | omega | rfl | assumption | fail), (by first | omega | rfl | assumption | fail), (by first | omega | rfl | assumption | fail), (by first | omega | rfl | assumption | fail), (by first | omega | rfl | assumption | fail)⟩⟩, ⟨hh_58.ra (by first | (simp only; omega) | omega) (by first | (simp only; omega) | omega) (M1 := [(r0, 16, 12, .int z_1), (r0, 16, 11, .int 4), (r0, 16, 15, .int (-1)), (r0, 16, 16, .int pb), (bn, 0, 3, .int cn), (bv, 0, 3, .int cv), (bn, 0, 0, .ref an), (bv, 0, 0, .ref av)]) [2, 1, 0, 9, 5, 7, 6, 8] rfl ht, hg_an, hg_av, jNk.rf⟩⟩, by rw [ht]; try exact hh_58.1.1, fun q h9 hq => by rw [ht]; try exact hh_58.1.2.1 q h9 hq⟩) hh_58.1.2.2 dX14_headerByte_287
                    · skip
                      exact absurd c_59 (by decide)
                  · skip
                    have c_57' : r_55.toInt ≠ 0 := jb_eq_n (rfl) ((by decide)) c_57
                    obtain ⟨hl4, hl5, hl6⟩ := hr_55p_2 (by omega)
                    refine lv_aload_n hx hb dX14_headerByte_264 rfl (lv_at hl 0 rfl) ?_
                    have hsz_61 := hh_54.2.2.2.2.2.1
                    have htt_61 := hh_54.2.2.2.2.2.2.1
                    refine W.room (fun hrc_61 hrs_61 => ?_)
                    refine va_calli (A0 := jA base) (H0 := s.heap) (va_runV (As := []) (rest := [.ref r0]) ⟨hx, hb, hml, hown, hts⟩ (uX14_lengthTold l dC dI ca base B hB hAp hB0 hB16 hB196 G0 H_54 r0 bv cv av n_av f_fv_56) (cwV 0 hts (jgV (jWr_49 _ (List.mem_of_getElem? (i := 21) rfl)) (jWr_49 _ (List.mem_of_getElem? (i := 22) rfl)) (jWr_49 _ (List.mem_of_getElem? (i := 23) rfl)) (jWr_1 _ (List.mem_of_getElem? (i := 5) rfl)) (jWr_50 _ (List.mem_of_getElem? (i := 0) rfl))) rfl rfl rfl (by decide +kernel) ⟨by rw [← hR]; exact Nat.le_of_ble_eq_true rfl, by rw [← hR]; exact Nat.le_of_ble_eq_true rfl⟩) ⟨fun a U g mk q => by obtain ⟨q0, q1, q2, qK, q10, q11, q12, q13, q14, q15⟩ := q; exact ⟨q0, q1, q2, jG.calling g mk a qK, q10, q11, q12, q13, q14, q15⟩, hh_54.recv (C := RX14) (T := TX14) (N := 74) hB16 rfl (by decide) hg_r0 hK, fun U hU hW => ⟨rfl, hU, hh_54.2.1, hG.step hW hU hh_54.1, hg_r0, hg_bv, hg_av, (hh_54.2.2.1.sub (L1 := [(r0, 16, 14, .ref bv), (bv, 0, 3, .int cv), (bv, 0, 0, .ref av)]) [3, 6, 7] rfl), (hh_54.2.2.2.2.2.2.2.1.sub (L1 := [(av, 196, n_av, ca 0, f_fv_56)]) [0] rfl), by first | omega | (refine ⟨?_, ?_, ?_, ?_, ?_⟩ <;> (first | omega | rfl | assumption | decide | exact Or.inl rfl | exact Or.inr rfl | (simp only; omega)))⟩⟩ rfl rfl hl.1 rfl (lv_room (Nat.le_of_ble_eq_true rfl)) dX14_headerByte_265 ⟨by rw [hRc]; show _ + 0 ≤ _; omega, by rw [hRs]; show _ + 0 ≤ _; omega⟩) hh_54.1 (fun q _ h => h) (fun q h => h) (fun r_62 u_61 t_61 H_61 locs_61 ht_61 hvm_61 hr_62 hb_61 hz_61 hk_61 hS_61 => ?_)
                    rw [ht_61] at hb_61
                    obtain ⟨hb_611, hb_612, hb_613, hb_614, hb_615⟩ := hb_61
                    have hh_61 : jSt (dC, dI) B base G0 G0 EX14_headerByte s.heap 0 0 [(r0, 16, 11, .int 4), (r0, 16, 12, .int z_1), (r0, 16, 13, .ref bn), (r0, 16, 14, .ref bv), (bn, 0, 3, .int cn), (bn, 0, 0, .ref an), (bv, 0, 3, .int cv), (bv, 0, 0, .ref av), (r0, 16, 15, .int pl), (r0, 16, 16, .int pb)] [(av, 196, n_av, ca 0, f_fv_56), (an, 196, n_an, ca 0, f_fv_52)] [] H_61 locs_61 := ((hh_54.call hb_611 hb_612 hb_613 hb_614 hS_61 rfl (L1 := [(r0, 16, 11, .int 4), (r0, 16, 12, .int z_1), (r0, 16, 13, .ref bn), (r0, 16, 14, .ref bv), (bn, 0, 3, .int cn), (bn, 0, 0, .ref an), (bv, 0, 3, .int cv), (bv, 0, 0, .ref av), (r0, 16, 15, .int pl), (r0, 16, 16, .int pb)]) [0, 1, 2, 3, 4, 5, 6, 7, 8, 9] rfl rfl (M1 := [(av, 196, n_av, ca 0, f_fv_56), (an, 196, n_an, ca 0, f_fv_52)]) [0, 1] rfl rfl (I1 := []) [] rfl rfl).more hb_615)
                    clear hh_54 ht_61 hvm_61 hz_61 hk_61 hS_61 hb_611 hb_612 hb_613 hb_614 hb_615
                    have hl7 := jNm_0 hl5 cv.toInt.toNat (by omega)
                    rw [← hr_62] at hl6 hl7
                    refine lv_goto (tgt := 272) hx hb dX14_headerByte_268 (by decide) ?_
                    refine j7_put hx hb hown hK hh_61 hB hAp hB16 (C := RX14) (T := TX14) (N := 74) rfl (by decide) hg_r0 (i := 15) (by decide) hly_16_15 rfl hlk_33 rfl (ty := .int) (v := .int r_62) (by decide +kernel) rfl rfl (⟨_, rfl, by omega, by omega⟩) rfl (L1 := [(r0, 16, 11, .int 4), (r0, 16, 12, .int z_1), (r0, 16, 13, .ref bn), (r0, 16, 14, .ref bv), (bn, 0, 3, .int cn), (bn, 0, 0, .ref an), (bv, 0, 3, .int cv), (bv, 0, 0, .ref av), (r0, 16, 16, .int pb)]) [0, 1, 2, 3, 4, 5, 6, 7, 9] rfl rfl rfl dX14_headerByte_272 (fun H_63 locs_63 hh_63 => ?_)
                    clear hh_61
                    refine lv_aload_n hx hb dX14_headerByte_275 rfl (lv_at hl 0 rfl) ?_
                    refine j7_read hx hb hown hK (C := RX14) (T := TX14) (N := 74) rfl hly_16_15 hlk_33 (hh_63.at 0 rfl) dX14_headerByte_276 ?_
                    refine lv_if_lt (tgt := 286) hx hb dX14_headerByte_279 (by decide) (fun c_64 => ?_) (fun c_64 => ?_)
                    · skip
                      have c_64' : r_62.toInt < 0 := jb_lt (rfl) ((by decide)) c_64
                      refine lv_iconst (v := 0) hx hb dX14_headerByte_286 (by decide) ?_
                      have hsz_65 := hh_63.2.2.2.2.2.1
                      have htt_65 := hh_63.2.2.2.2.2.2.1
                      refine W.room (fun hrc_65 hrs_65 => ?_)
                      refine W.widen (k := LC - s.heap.size) (n := LS - jTot s.heap) (by omega) (by omega) ?_
                      rw [hQ]
                      exact W.zret (v := 0) hx hb hr (jb_nz (Or.inl rfl)) (fun t ht hW => ⟨⟨0, (z_1, 4, r_62, pb, cn, cv, an, n_an, av, n_av, G0), rfl, ⟨(Or.inl rfl), by (try dsimp only); exact ⟨(by first | omega | rfl | assumption | fail), (by first | omega | rfl | assumption | fail), (by first | omega | rfl | assumption | fail), (by first | omega | rfl | assumption | fail), (by first | omega | rfl | assumption | fail), (by first | omega | rfl | assumption | fail), (by first | omega | rfl | assumption | fail), (by first | omega | rfl | assumption | fail), (by first | omega | rfl | assumption | fail), (by first | omega | rfl | assumption | fail), (by first | omega | rfl | assumption | fail), (by first | omega | rfl | assumption | fail), (by first | omega | rfl | assumption | fail), (by first | omega | rfl | assumption | fail)⟩⟩, ⟨hh_63.ra (by first | (simp only; omega) | omega) (by first | (simp only; omega) | omega) (M1 := [(r0, 16, 12, .int z_1), (r0, 16, 11, .int 4), (r0, 16, 15, .int r_62), (r0, 16, 16, .int pb), (bn, 0, 3, .int cn), (bv, 0, 3, .int cv), (bn, 0, 0, .ref an), (bv, 0, 0, .ref av)]) [2, 1, 0, 9, 5, 7, 6, 8] rfl ht, hg_an, hg_av, jNk.rf⟩⟩, by rw [ht]; try exact hh_63.1.1, fun q h9 hq => by rw [ht]; try exact hh_63.1.2.1 q h9 hq⟩) hh_63.1.2.2 dX14_headerByte_287
                    · skip
                      have c_64' : r_62.toInt ≥ 0 := jb_lt_n (rfl) ((by decide)) c_64
                      refine lv_iconst (v := 1) hx hb dX14_headerByte_282 (by decide) ?_
                      refine lv_goto (tgt := 287) hx hb dX14_headerByte_283 (by decide) ?_
                      have hsz_66 := hh_63.2.2.2.2.2.1
                      have htt_66 := hh_63.2.2.2.2.2.2.1
                      refine W.room (fun hrc_66 hrs_66 => ?_)
                      refine W.widen (k := LC - s.heap.size) (n := LS - jTot s.heap) (by omega) (by omega) ?_
                      rw [hQ]
                      exact W.zret (v := 1) hx hb hr (jb_nz (Or.inr rfl)) (fun t ht hW => ⟨⟨1, (z_1, 4, r_62, pb, cn, cv, an, n_an, av, n_av, G0), rfl, ⟨(Or.inr rfl), by (try dsimp only); exact ⟨(by first | omega | rfl | assumption | fail), (by first | omega | rfl | assumption | fail), (by first | omega | rfl | assumption | fail), (by first | omega | rfl | assumption | fail), (by first | omega | rfl | assumption | fail), (by first | omega | rfl | assumption | fail), (by first | omega | rfl | assumption | fail), (by first | omega | rfl | assumption | fail), (by first | omega | rfl | assumption | fail), (by first | omega | rfl | assumption | fail), (by first | omega | rfl | assumption | fail), (by first | omega | rfl | assumption | fail), (by first | omega | rfl | assumption | fail), (by first | omega | rfl | assumption | fail)⟩⟩, ⟨hh_63.ra (by first | (simp only; omega) | omega) (by first | (simp only; omega) | omega) (M1 := [(r0, 16, 12, .int z_1), (r0, 16, 11, .int 4), (r0, 16, 15, .int r_62), (r0, 16, 16, .int pb), (bn, 0, 3, .int cn), (bv, 0, 3, .int cv), (bn, 0, 0, .ref an), (bv, 0, 0, .ref av)]) [2, 1, 0, 9, 5, 7, 6, 8] rfl ht, hg_an, hg_av, jNk.rf⟩⟩, by rw [ht]; try exact hh_63.1.1, fun q h9 hq => by rw [ht]; try exact hh_63.1.2.1 q h9 hq⟩) hh_63.1.2.2 dX14_headerByte_287
                · skip
                  have c_53' : r_51.toInt = 0 := jb_ne_n (rfl) ((by decide)) c_53
                  refine lv_iconst (v := 1) hx hb dX14_headerByte_253 (by decide) ?_
                  have hsz_67 := hh_50.2.2.2.2.2.1
                  have htt_67 := hh_50.2.2.2.2.2.2.1
                  refine W.room (fun hrc_67 hrs_67 => ?_)
                  refine W.widen (k := LC - s.heap.size) (n := LS - jTot s.heap) (by omega) (by omega) ?_
                  rw [hQ]
                  exact W.zret (v := 1) hx hb hr (jb_nz (Or.inr rfl)) (fun t ht hW => ⟨⟨1, (z_1, 4, pl, pb, cn, cv, an, n_an, av, n_av, G0), rfl, ⟨(Or.inr rfl), by (try dsimp only); exact ⟨(by first | omega | rfl | assumption | fail), (by first | omega | rfl | assumption | fail), (by first | omega | rfl | assumption | fail), (by first | omega | rfl | assumption | fail), (by first | omega | rfl | assumption | fail), (by first | omega | rfl | assumption | fail), (by first | omega | rfl | assumption | fail), (by first | omega | rfl | assumption | fail), (by first | omega | rfl | assumption | fail), (by first | omega | rfl | assumption | fail), (by first | omega | rfl | assumption | fail), (by first | omega | rfl | assumption | fail), (by first | omega | rfl | assumption | fail), (by first | omega | rfl | assumption | fail)⟩⟩, ⟨hh_50.ra (by first | (simp only; omega) | omega) (by first | (simp only; omega) | omega) (M1 := [(r0, 16, 12, .int z_1), (r0, 16, 11, .int 4), (r0, 16, 15, .int pl), (r0, 16, 16, .int pb), (bn, 0, 3, .int cn), (bv, 0, 3, .int cv), (bn, 0, 0, .ref an), (bv, 0, 0, .ref av)]) [1, 0, 8, 9, 4, 6, 5, 7] rfl ht, hg_an, hg_av, jNk.rf⟩⟩, by rw [ht]; try exact hh_50.1.1, fun q h9 hq => by rw [ht]; try exact hh_50.1.2.1 q h9 hq⟩) hh_50.1.2.2 dX14_headerByte_254
            · skip
              have c_21' : pm.toInt = 2 := jb_ne_n (rfl) ((by decide)) c_21
              refine lv_iload_n hx hb dX14_headerByte_222 rfl (lv_at hl 1 rfl) ?_
              refine lv_bipush (v := 32) hx hb dX14_headerByte_223 (by decide) ?_
              refine lv_icmp_ne (tgt := 230) hx hb dX14_headerByte_225 (by decide) (fun c_68 => ?_) (fun c_68 => ?_)
              · skip
                have c_68' : a1.toInt ≠ 32 := jb_ne (rfl) ((by decide)) c_68
                refine lv_aload_n hx hb dX14_headerByte_230 rfl (lv_at hl 0 rfl) ?_
                refine lv_iconst (v := 3) hx hb dX14_headerByte_231 (by decide) ?_
                refine j7_put hx hb hown hK hh_2 hB hAp hB16 (C := RX14) (T := TX14) (N := 74) rfl (by decide) hg_r0 (i := 11) (by decide) hly_16_11 rfl hlk_231 rfl (ty := .int) (v := .int 3) (by decide +kernel) rfl rfl (⟨_, rfl⟩) rfl (L1 := [(r0, 16, 12, .int z_1), (r0, 16, 13, .ref bn), (r0, 16, 14, .ref bv), (bn, 0, 3, .int cn), (bn, 0, 0, .ref an), (bv, 0, 3, .int cv), (bv, 0, 0, .ref av), (r0, 16, 15, .int pl), (r0, 16, 16, .int pb)]) [0, 1, 2, 3, 4, 5, 6, 8, 9] rfl rfl rfl dX14_headerByte_232 (fun H_69 locs_69 hh_69 => ?_)
                clear hh_2
                refine lv_iload_n hx hb dX14_headerByte_235 rfl (lv_at hl 1 rfl) ?_
                refine lv_bipush (v := 13) hx hb dX14_headerByte_236 (by decide) ?_
                refine lv_icmp_ne (tgt := 288) hx hb dX14_headerByte_238 (by decide) (fun c_70 => ?_) (fun c_70 => ?_)
                · skip
                  have c_70' : a1.toInt ≠ 13 := jb_ne (rfl) ((by decide)) c_70
                  refine lv_aload_n hx hb dX14_headerByte_288 rfl (lv_at hl 0 rfl) ?_
                  refine j7_read hx hb hown hK (C := RX14) (T := TX14) (N := 74) rfl hly_16_14 hlk_30 (hh_69.at 3 rfl) dX14_headerByte_289 ?_
                  refine lv_iload_n hx hb dX14_headerByte_292 rfl (lv_at hl 1 rfl) ?_
                  refine lv_i2c hx hb dX14_headerByte_293 rfl ?_
                  refine lv_topi (fun z_71 ez_71 => ?_)
                  have hic := jb_i2c (by assumption) hp16 hp17
                  have hsz_72 := hh_69.2.2.2.2.2.1
                  have htt_72 := hh_69.2.2.2.2.2.2.1
                  refine W.room (fun hrc_72 hrs_72 => ?_)
                  refine j_callx (A0 := jA base) (H0 := s.heap) (va_runV (As := [.int z_71]) (rest := []) ⟨hx, hb, hml, hown, hts⟩ (uJ4_append_cf468M l dC dI ca base B hB hAp hB0 hB196 G0 H_69 bv z_71 cv av n_av LC LS) (cwV 1 hts (jgV (jWr_46 _ (List.mem_of_getElem? (i := 18) rfl)) (jWr_46 _ (List.mem_of_getElem? (i := 19) rfl)) (jWr_46 _ (List.mem_of_getElem? (i := 20) rfl)) (jWr_11 _ (List.mem_of_getElem? (i := 0) rfl)) (jWr_46 _ (List.mem_of_getElem? (i := 21) rfl))) rfl rfl rfl (by decide +kernel) ⟨by rw [← hR]; exact Nat.le_of_ble_eq_true rfl, by rw [← hR]; exact Nat.le_of_ble_eq_true rfl⟩) ⟨fun a U g mk q => by obtain ⟨q0, q1, q2, qK, q10, q11, q12, q13⟩ := q; exact ⟨q0, q1, q2, jG.calling g mk a qK, q10, q11, q12, q13⟩, hh_69.recv (C := RJ4) (T := TJ4) (N := 4) hB0 rfl (by decide) hg_bv hK, fun U hU hW => ⟨rfl, hU, hh_69.2.1, hG.step hW hU hh_69.1, hg_bv, hg_av, (hh_69.2.2.1.sub (L1 := [(bv, 0, 3, .int cv), (bv, 0, 0, .ref av)]) [6, 7] rfl), by first | omega | (refine ⟨?_, ?_, ?_, ?_, ?_, ?_⟩ <;> (first | omega | rfl | assumption | decide | exact Or.inl rfl | exact Or.inr rfl | (simp only; omega)))⟩⟩ rfl rfl hl.1 rfl (lv_room (Nat.le_of_ble_eq_true rfl)) dX14_headerByte_294 ⟨by rw [hRc]; omega, by rw [hRs]; omega⟩) hh_69.1 (fun q _ h => h) (fun q h => h) (fun r_73 u_72 t_72 H_72 locs_72 ht_72 hvm_72 hr_73 hb_72 hz_72 hk_72 hS_72 => ?_)
                  obtain ⟨qc_72, qa_72, m_qa_72, G_72⟩ := u_72
                  rw [ht_72] at hb_72
                  simp only at hb_72
                  obtain ⟨⟨hb_721, hb_722, hb_723, hb_724, hb_725, hb_726⟩, hgq_72_0, hN_72, hbO_72⟩ := hb_72
                  have hh_72 : jSt (dC, dI) B base G0 G_72 EX14_headerByte s.heap (0 + (m_qa_72 - n_av)) (0 + (2 * (m_qa_72 - n_av))) [(bv, 0, 3, .int qc_72), (bv, 0, 0, .ref qa_72), (r0, 16, 11, .int 3), (r0, 16, 12, .int z_1), (r0, 16, 13, .ref bn), (r0, 16, 14, .ref bv), (r0, 16, 15, .int pl), (r0, 16, 16, .int pb)] [] [] H_72 locs_72 := (hh_69.callG hb_721 hb_722 hb_723 hb_724 hb_725 hS_72 rfl (L1 := [(r0, 16, 11, .int 3), (r0, 16, 12, .int z_1), (r0, 16, 13, .ref bn), (r0, 16, 14, .ref bv), (r0, 16, 15, .int pl), (r0, 16, 16, .int pb)]) [0, 1, 2, 3, 8, 9] rfl rfl (M1 := []) [] rfl rfl (I1 := []) [] rfl rfl).more hb_726
                  have hNn_72 : (jNk [0, 1, 2, 3, 4, 5, 6, 7, 8, 9, 10, 11, 12, 13, 14, 15, 16]) G0 G_72 := (jNk.rf).tr hN_72
                  have hg_74 := hb_722 _ _ hg_r0
                  have hg_75 := hb_722 _ _ hg_bn
                  have hg_76 := hb_722 _ _ hg_bv
                  have hh_77 := hh_72.more (P1 := [(bn, 0, 3, .int cn), (bn, 0, 0, .ref an)]) (jP.cons hg_75 (hbO_72 _ _ _ _ (by first | assumption | exact Ne.symm (by assumption) | exact jnek hg_bn hg_bv (by decide)) hg_bn (hh_69.at 4 rfl)) (jP.cons hg_75 (hbO_72 _ _ _ _ (by first | assumption | exact Ne.symm (by assumption) | exact jnek hg_bn hg_bv (by decide)) hg_bn (hh_69.at 5 rfl)) jP.nil))
                  have hg_78 := hb_722 _ _ hg_an
                  obtain ⟨hr_73, hr_73p⟩ := hr_73
                  try simp only at hr_73p
                  obtain ⟨hr_73p_0, hr_73p_1, hr_73p_2, hr_73p_3, hr_73p_4⟩ := hr_73p
                  obtain ⟨ret_79, rfl, hg_ret_79⟩ := hr_73
                  have hg_80 := hb_722 _ _ hg_ret_79
                  refine lv_pop hx hb dX14_headerByte_297 rfl ?_
                  refine lv_iload_n hx hb dX14_headerByte_298 rfl (lv_at hl 1 rfl) ?_
                  refine lv_bipush (v := 32) hx hb dX14_headerByte_299 (by decide) ?_
                  refine lv_bipush (v := 126) hx hb dX14_headerByte_301 (by decide) ?_
                  have hsz_81 := hh_77.2.2.2.2.2.1
                  have htt_81 := hh_77.2.2.2.2.2.2.1
                  refine W.room (fun hrc_81 hrs_81 => ?_)
                  refine va_calli (A0 := jA base) (H0 := s.heap) (va_runS (As := [.int a1, .int 32, .int 126]) (rest := []) ⟨hx, hb, hml, hown, hts⟩ (uX14_in l dC dI ca base B hB hAp G_72 H_72 a1 32 126) (va_cwS 3 hts (jgS (jWr_48 _ (List.mem_of_getElem? (i := 10) rfl)) (jWr_48 _ (List.mem_of_getElem? (i := 11) rfl)) (jWr_1 _ (List.mem_of_getElem? (i := 5) rfl)) (jWr_48 _ (List.mem_of_getElem? (i := 12) rfl))) rfl rfl rfl (by decide +kernel) ⟨by rw [← hR]; exact Nat.le_of_ble_eq_true rfl, by rw [← hR]; exact Nat.le_of_ble_eq_true rfl⟩) ⟨fun a U g mk q => by obtain ⟨q0, q1, q2, qK, q10, q11⟩ := q; exact ⟨q0, q1, q2, jG.calling g mk a qK, q10, q11⟩, fun U hU hW => ⟨rfl, hU, hh_77.2.1, hG.step hW hU hh_77.1, jP.nil, trivial⟩⟩ rfl rfl hl.1 rfl (lv_room (Nat.le_of_ble_eq_true rfl)) dX14_headerByte_303 ⟨by rw [hRc]; show _ + 0 ≤ _; omega, by rw [hRs]; show _ + 0 ≤ _; omega⟩) hh_77.1 (fun q _ h => h) (fun q h => h) (fun r_82 u_81 t_81 H_81 locs_81 ht_81 hvm_81 hr_82 hb_81 hz_81 hk_81 hS_81 => ?_)
                  rw [ht_81] at hb_81
                  obtain ⟨hb_811, hb_812, hb_813, hb_814, hb_815⟩ := hb_81
                  have hh_81 : jSt (dC, dI) B base G0 G_72 EX14_headerByte s.heap (0 + (m_qa_72 - n_av)) (0 + (2 * (m_qa_72 - n_av))) [(bn, 0, 3, .int cn), (bn, 0, 0, .ref an), (bv, 0, 3, .int qc_72), (bv, 0, 0, .ref qa_72), (r0, 16, 11, .int 3), (r0, 16, 12, .int z_1), (r0, 16, 13, .ref bn), (r0, 16, 14, .ref bv), (r0, 16, 15, .int pl), (r0, 16, 16, .int pb)] [] [] H_81 locs_81 := ((hh_77.call hb_811 hb_812 hb_813 hb_814 hS_81 rfl (L1 := [(bn, 0, 3, .int cn), (bn, 0, 0, .ref an), (bv, 0, 3, .int qc_72), (bv, 0, 0, .ref qa_72), (r0, 16, 11, .int 3), (r0, 16, 12, .int z_1), (r0, 16, 13, .ref bn), (r0, 16, 14, .ref bv), (r0, 16, 15, .int pl), (r0, 16, 16, .int pb)]) [0, 1, 2, 3, 4, 5, 6, 7, 8, 9] rfl rfl (M1 := []) [] rfl rfl (I1 := []) [] rfl rfl).more hb_815)
                  clear hh_77 ht_81 hvm_81 hz_81 hk_81 hS_81 hb_811 hb_812 hb_813 hb_814 hb_815
                  obtain ⟨hr_82b, hr_82p⟩ := hr_82
                  obtain ⟨hr_82p_0, hr_82p_1, hr_82p_2⟩ := hr_82p
                  have hr_82' := jb_01 hr_82b
                  refine lv_if_eq (tgt := 328) hx hb dX14_headerByte_306 (by decide) (fun c_83 => ?_) (fun c_83 => ?_)
                  · skip
                    have c_83' : r_82.toInt = 0 := jb_eq (rfl) ((by decide)) c_83
                    refine lv_iconst (v := 0) hx hb dX14_headerByte_328 (by decide) ?_
                    have hsz_84 := hh_81.2.2.2.2.2.1
                    have htt_84 := hh_81.2.2.2.2.2.2.1
                    refine W.room (fun hrc_84 hrs_84 => ?_)
                    refine W.widen (k := LC - s.heap.size) (n := LS - jTot s.heap) (by omega) (by omega) ?_
                    rw [hQ]
                    exact W.zret (v := 0) hx hb hr (jb_nz (Or.inl rfl)) (fun t ht hW => ⟨⟨0, (z_1, 3, pl, pb, cn, qc_72, an, n_an, qa_72, m_qa_72, G_72), rfl, ⟨(Or.inl rfl), by (try dsimp only); exact ⟨(by first | omega | rfl | assumption | fail), (by first | omega | rfl | assumption | fail), (by first | omega | rfl | assumption | fail), (by first | omega | rfl | assumption | fail), (by first | omega | rfl | assumption | fail), (by first | omega | rfl | assumption | fail), (by first | omega | rfl | assumption | fail), (by first | omega | rfl | assumption | fail), (by first | omega | rfl | assumption | fail), (by first | omega | rfl | assumption | fail), (by first | omega | rfl | assumption | fail), (by first | omega | rfl | assumption | fail), (by first | omega | rfl | assumption | fail), (by first | omega | rfl | assumption | fail)⟩⟩, ⟨hh_81.ra (by first | (simp only; omega) | omega) (by first | (simp only; omega) | omega) (M1 := [(r0, 16, 12, .int z_1), (r0, 16, 11, .int 3), (r0, 16, 15, .int pl), (r0, 16, 16, .int pb), (bn, 0, 3, .int cn), (bv, 0, 3, .int qc_72), (bn, 0, 0, .ref an), (bv, 0, 0, .ref qa_72)]) [5, 4, 8, 9, 0, 2, 1, 3] rfl ht, hg_78, hgq_72_0, hNn_72⟩⟩, by rw [ht]; try exact hh_81.1.1, fun q h9 hq => by rw [ht]; try exact hh_81.1.2.1 q h9 hq⟩) hh_81.1.2.2 dX14_headerByte_329
                  · skip
                    have c_83' : r_82.toInt ≠ 0 := jb_eq_n (rfl) ((by decide)) c_83
                    refine lv_aload_n hx hb dX14_headerByte_309 rfl (lv_at hl 0 rfl) ?_
                    obtain ⟨f_fv_87, hh_87⟩ := hh_81.cpin hB196 (by decide) (by decide) hg_78
                    clear hh_81
                    have hsz_85 := hh_87.2.2.2.2.2.1
                    have htt_85 := hh_87.2.2.2.2.2.2.1
                    refine W.room (fun hrc_85 hrs_85 => ?_)
                    refine va_calli (A0 := jA base) (H0 := s.heap) (va_runV (As := []) (rest := []) ⟨hx, hb, hml, hown, hts⟩ (uX14_isContentLength l dC dI ca base B hB hAp hB0 hB16 hB196 G_72 H_81 r0 bn cn an n_an f_fv_87) (cwV 0 hts (jgV (jWr_48 _ (List.mem_of_getElem? (i := 13) rfl)) (jWr_48 _ (List.mem_of_getElem? (i := 14) rfl)) (jWr_48 _ (List.mem_of_getElem? (i := 15) rfl)) (jWr_1 _ (List.mem_of_getElem? (i := 5) rfl)) (jWr_48 _ (List.mem_of_getElem? (i := 16) rfl))) rfl rfl rfl (by decide +kernel) ⟨by rw [← hR]; exact Nat.le_of_ble_eq_true rfl, by rw [← hR]; exact Nat.le_of_ble_eq_true rfl⟩) ⟨fun a U g mk q => by obtain ⟨q0, q1, q2, qK, q10, q11, q12, q13, q14, q15⟩ := q; exact ⟨q0, q1, q2, jG.calling g mk a qK, q10, q11, q12, q13, q14, q15⟩, hh_87.recv (C := RX14) (T := TX14) (N := 74) hB16 rfl (by decide) hg_74 hK, fun U hU hW => ⟨rfl, hU, hh_87.2.1, hG.step hW hU hh_87.1, hg_74, hg_75, hg_78, (hh_87.2.2.1.sub (L1 := [(r0, 16, 13, .ref bn), (bn, 0, 3, .int cn), (bn, 0, 0, .ref an)]) [6, 0, 1] rfl), (hh_87.2.2.2.2.2.2.2.1.sub (L1 := [(an, 196, n_an, ca 0, f_fv_87)]) [0] rfl), by first | omega | (refine ⟨?_, ?_, ?_⟩ <;> (first | omega | rfl | assumption | decide | exact Or.inl rfl | exact Or.inr rfl | (simp only; omega)))⟩⟩ rfl rfl hl.1 rfl (lv_room (Nat.le_of_ble_eq_true rfl)) dX14_headerByte_310 ⟨by rw [hRc]; show _ + 0 ≤ _; omega, by rw [hRs]; show _ + 0 ≤ _; omega⟩) hh_87.1 (fun q _ h => h) (fun q h => h) (fun r_86 u_85 t_85 H_85 locs_85 ht_85 hvm_85 hr_86 hb_85 hz_85 hk_85 hS_85 => ?_)
                    rw [ht_85] at hb_85
                    obtain ⟨hb_851, hb_852, hb_853, hb_854, hb_855⟩ := hb_85
                    have hh_85 : jSt (dC, dI) B base G0 G_72 EX14_headerByte s.heap (0 + (m_qa_72 - n_av)) (0 + (2 * (m_qa_72 - n_av))) [(bn, 0, 3, .int cn), (bn, 0, 0, .ref an), (bv, 0, 3, .int qc_72), (bv, 0, 0, .ref qa_72), (r0, 16, 11, .int 3), (r0, 16, 12, .int z_1), (r0, 16, 13, .ref bn), (r0, 16, 14, .ref bv), (r0, 16, 15, .int pl), (r0, 16, 16, .int pb)] [(an, 196, n_an, ca 0, f_fv_87)] [] H_85 locs_85 := ((hh_87.call hb_851 hb_852 hb_853 hb_854 hS_85 rfl (L1 := [(bn, 0, 3, .int cn), (bn, 0, 0, .ref an), (bv, 0, 3, .int qc_72), (bv, 0, 0, .ref qa_72), (r0, 16, 11, .int 3), (r0, 16, 12, .int z_1), (r0, 16, 13, .ref bn), (r0, 16, 14, .ref bv), (r0, 16, 15, .int pl), (r0, 16, 16, .int pb)]) [0, 1, 2, 3, 4, 5, 6, 7, 8, 9] rfl rfl (M1 := [(an, 196, n_an, ca 0, f_fv_87)]) [0] rfl rfl (I1 := []) [] rfl rfl).more hb_855)
                    clear hh_87 ht_85 hvm_85 hz_85 hk_85 hS_85 hb_851 hb_852 hb_853 hb_854 hb_855
                    obtain ⟨hr_86b, hr_86p⟩ := hr_86
                    have hr_86' := jb_01 hr_86b
                    refine lv_if_eq (tgt := 324) hx hb dX14_headerByte_313 (by decide) (fun c_88 => ?_) (fun c_88 => ?_)
                    · skip
                      have c_88' : r_86.toInt = 0 := jb_eq (rfl) ((by decide)) c_88
                      refine lv_iconst (v := 1) hx hb dX14_headerByte_324 (by decide) ?_
                      refine lv_goto (tgt := 329) hx hb dX14_headerByte_325 (by decide) ?_
                      have hsz_89 := hh_85.2.2.2.2.2.1
                      have htt_89 := hh_85.2.2.2.2.2.2.1
                      refine W.room (fun hrc_89 hrs_89 => ?_)
                      refine W.widen (k := LC - s.heap.size) (n := LS - jTot s.heap) (by omega) (by omega) ?_
                      rw [hQ]
                      exact W.zret (v := 1) hx hb hr (jb_nz (Or.inr rfl)) (fun t ht hW => ⟨⟨1, (z_1, 3, pl, pb, cn, qc_72, an, n_an, qa_72, m_qa_72, G_72), rfl, ⟨(Or.inr rfl), by (try dsimp only); exact ⟨(by first | omega | rfl | assumption | fail), (by first | omega | rfl | assumption | fail), (by first | omega | rfl | assumption | fail), (by first | omega | rfl | assumption | fail), (by first | omega | rfl | assumption | fail), (by first | omega | rfl | assumption | fail), (by first | omega | rfl | assumption | fail), (by first | omega | rfl | assumption | fail), (by first | omega | rfl | assumption | fail), (by first | omega | rfl | assumption | fail), (by first | omega | rfl | assumption | fail), (by first | omega | rfl | assumption | fail), (by first | omega | rfl | assumption | fail), (by first | omega | rfl | assumption | fail)⟩⟩, ⟨hh_85.ra (by first | (simp only; omega) | omega) (by first | (simp only; omega) | omega) (M1 := [(r0, 16, 12, .int z_1), (r0, 16, 11, .int 3), (r0, 16, 15, .int pl), (r0, 16, 16, .int pb), (bn, 0, 3, .int cn), (bv, 0, 3, .int qc_72), (bn, 0, 0, .ref an), (bv, 0, 0, .ref qa_72)]) [5, 4, 8, 9, 0, 2, 1, 3] rfl ht, hg_78, hgq_72_0, hNn_72⟩⟩, by rw [ht]; try exact hh_85.1.1, fun q h9 hq => by rw [ht]; try exact hh_85.1.2.1 q h9 hq⟩) hh_85.1.2.2 dX14_headerByte_329
                    · skip
                      have c_88' : r_86.toInt ≠ 0 := jb_eq_n (rfl) ((by decide)) c_88
                      refine lv_aload_n hx hb dX14_headerByte_316 rfl (lv_at hl 0 rfl) ?_
                      refine lv_iconst (v := 0) hx hb dX14_headerByte_317 (by decide) ?_
                      obtain ⟨f_fv_92, hh_92⟩ := hh_85.cpin hB196 (by decide) (by decide) hgq_72_0
                      clear hh_85
                      have hsz_90 := hh_92.2.2.2.2.2.1
                      have htt_90 := hh_92.2.2.2.2.2.2.1
                      refine W.room (fun hrc_90 hrs_90 => ?_)
                      refine va_calli (A0 := jA base) (H0 := s.heap) (va_runV (As := [.int 0]) (rest := []) ⟨hx, hb, hml, hown, hts⟩ (uX14_isLengthSoFar l dC dI ca base B hB hAp hB0 hB16 hB196 G_72 H_85 r0 0 bv qc_72 qa_72 m_qa_72 f_fv_92) (cwV 1 hts (jgV (jWr_49 _ (List.mem_of_getElem? (i := 14) rfl)) (jWr_49 _ (List.mem_of_getElem? (i := 15) rfl)) (jWr_49 _ (List.mem_of_getElem? (i := 16) rfl)) (jWr_1 _ (List.mem_of_getElem? (i := 5) rfl)) (jWr_49 _ (List.mem_of_getElem? (i := 17) rfl))) rfl rfl rfl (by decide +kernel) ⟨by rw [← hR]; exact Nat.le_of_ble_eq_true rfl, by rw [← hR]; exact Nat.le_of_ble_eq_true rfl⟩) ⟨fun a U g mk q => by obtain ⟨q0, q1, q2, qK, q10, q11, q12, q13, q14, q15, q16⟩ := q; exact ⟨q0, q1, q2, jG.calling g mk a qK, q10, q11, q12, q13, q14, q15, q16⟩, hh_92.recv (C := RX14) (T := TX14) (N := 74) hB16 rfl (by decide) hg_74 hK, fun U hU hW => ⟨rfl, hU, hh_92.2.1, hG.step hW hU hh_92.1, hg_74, (Or.inl rfl), hg_76, hgq_72_0, (hh_92.2.2.1.sub (L1 := [(r0, 16, 14, .ref bv), (bv, 0, 3, .int qc_72), (bv, 0, 0, .ref qa_72)]) [7, 2, 3] rfl), (hh_92.2.2.2.2.2.2.2.1.sub (L1 := [(qa_72, 196, m_qa_72, ca 0, f_fv_92)]) [0] rfl), by first | omega | (refine ⟨?_, ?_, ?_⟩ <;> (first | omega | rfl | assumption | decide | exact Or.inl rfl | exact Or.inr rfl | (simp only; omega)))⟩⟩ rfl rfl hl.1 rfl (lv_room (Nat.le_of_ble_eq_true rfl)) dX14_headerByte_318 ⟨by rw [hRc]; show _ + 0 ≤ _; omega, by rw [hRs]; show _ + 0 ≤ _; omega⟩) hh_92.1 (fun q _ h => h) (fun q h => h) (fun r_91 u_90 t_90 H_90 locs_90 ht_90 hvm_90 hr_91 hb_90 hz_90 hk_90 hS_90 => ?_)
                      rw [ht_90] at hb_90
                      obtain ⟨hb_901, hb_902, hb_903, hb_904, hb_905⟩ := hb_90
                      have hh_90 : jSt (dC, dI) B base G0 G_72 EX14_headerByte s.heap (0 + (m_qa_72 - n_av)) (0 + (2 * (m_qa_72 - n_av))) [(bn, 0, 3, .int cn), (bn, 0, 0, .ref an), (bv, 0, 3, .int qc_72), (bv, 0, 0, .ref qa_72), (r0, 16, 11, .int 3), (r0, 16, 12, .int z_1), (r0, 16, 13, .ref bn), (r0, 16, 14, .ref bv), (r0, 16, 15, .int pl), (r0, 16, 16, .int pb)] [(qa_72, 196, m_qa_72, ca 0, f_fv_92), (an, 196, n_an, ca 0, f_fv_87)] [] H_90 locs_90 := ((hh_92.call hb_901 hb_902 hb_903 hb_904 hS_90 rfl (L1 := [(bn, 0, 3, .int cn), (bn, 0, 0, .ref an), (bv, 0, 3, .int qc_72), (bv, 0, 0, .ref qa_72), (r0, 16, 11, .int 3), (r0, 16, 12, .int z_1), (r0, 16, 13, .ref bn), (r0, 16, 14, .ref bv), (r0, 16, 15, .int pl), (r0, 16, 16, .int pb)]) [0, 1, 2, 3, 4, 5, 6, 7, 8, 9] rfl rfl (M1 := [(qa_72, 196, m_qa_72, ca 0, f_fv_92), (an, 196, n_an, ca 0, f_fv_87)]) [0, 1] rfl rfl (I1 := []) [] rfl rfl).more hb_905)
                      clear hh_92 ht_90 hvm_90 hz_90 hk_90 hS_90 hb_901 hb_902 hb_903 hb_904 hb_905
                      obtain ⟨hr_91b, hr_91p⟩ := hr_91
                      obtain ⟨hr_91p_0, hr_91p_1, hr_91p_2⟩ := hr_91p
                      have hr_91' := jb_01 hr_91b
                      refine lv_if_eq (tgt := 328) hx hb dX14_headerByte_321 (by decide) (fun c_93 => ?_) (fun c_93 => ?_)
                      · skip
                        have c_93' : r_91.toInt = 0 := jb_eq (rfl) ((by decide)) c_93
                        refine lv_iconst (v := 0) hx hb dX14_headerByte_328 (by decide) ?_
                        have hsz_94 := hh_90.2.2.2.2.2.1
                        have htt_94 := hh_90.2.2.2.2.2.2.1
                        refine W.room (fun hrc_94 hrs_94 => ?_)
                        refine W.widen (k := LC - s.heap.size) (n := LS - jTot s.heap) (by omega) (by omega) ?_
                        rw [hQ]
                        exact W.zret (v := 0) hx hb hr (jb_nz (Or.inl rfl)) (fun t ht hW => ⟨⟨0, (z_1, 3, pl, pb, cn, qc_72, an, n_an, qa_72, m_qa_72, G_72), rfl, ⟨(Or.inl rfl), by (try dsimp only); exact ⟨(by first | omega | rfl | assumption | fail), (by first | omega | rfl | assumption | fail), (by first | omega | rfl | assumption | fail), (by first | omega | rfl | assumption | fail), (by first | omega | rfl | assumption | fail), (by first | omega | rfl | assumption | fail), (by first | omega | rfl | assumption | fail), (by first | omega | rfl | assumption | fail), (by first | omega | rfl | assumption | fail), (by first | omega | rfl | assumption | fail), (by first | omega | rfl | assumption | fail), (by first | omega | rfl | assumption | fail), (by first | omega | rfl | assumption | fail), (by first | omega | rfl | assumption | fail)⟩⟩, ⟨hh_90.ra (by first | (simp only; omega) | omega) (by first | (simp only; omega) | omega) (M1 := [(r0, 16, 12, .int z_1), (r0, 16, 11, .int 3), (r0, 16, 15, .int pl), (r0, 16, 16, .int pb), (bn, 0, 3, .int cn), (bv, 0, 3, .int qc_72), (bn, 0, 0, .ref an), (bv, 0, 0, .ref qa_72)]) [5, 4, 8, 9, 0, 2, 1, 3] rfl ht, hg_78, hgq_72_0, hNn_72⟩⟩, by rw [ht]; try exact hh_90.1.1, fun q h9 hq => by rw [ht]; try exact hh_90.1.2.1 q h9 hq⟩) hh_90.1.2.2 dX14_headerByte_329
                      · skip
                        have c_93' : r_91.toInt ≠ 0 := jb_eq_n (rfl) ((by decide)) c_93
                        refine lv_iconst (v := 1) hx hb dX14_headerByte_324 (by decide) ?_
                        refine lv_goto (tgt := 329) hx hb dX14_headerByte_325 (by decide) ?_
                        have hsz_95 := hh_90.2.2.2.2.2.1
                        have htt_95 := hh_90.2.2.2.2.2.2.1
                        refine W.room (fun hrc_95 hrs_95 => ?_)
                        refine W.widen (k := LC - s.heap.size) (n := LS - jTot s.heap) (by omega) (by omega) ?_
                        rw [hQ]
                        exact W.zret (v := 1) hx hb hr (jb_nz (Or.inr rfl)) (fun t ht hW => ⟨⟨1, (z_1, 3, pl, pb, cn, qc_72, an, n_an, qa_72, m_qa_72, G_72), rfl, ⟨(Or.inr rfl), by (try dsimp only); exact ⟨(by first | omega | rfl | assumption | fail), (by first | omega | rfl | assumption | fail), (by first | omega | rfl | assumption | fail), (by first | omega | rfl | assumption | fail), (by first | omega | rfl | assumption | fail), (by first | omega | rfl | assumption | fail), (by first | omega | rfl | assumption | fail), (by first | omega | rfl | assumption | fail), (by first | omega | rfl | assumption | fail), (by first | omega | rfl | assumption | fail), (by first | omega | rfl | assumption | fail), (by first | omega | rfl | assumption | fail), (by first | omega | rfl | assumption | fail), (by first | omega | rfl | assumption | fail)⟩⟩, ⟨hh_90.ra (by first | (simp only; omega) | omega) (by first | (simp only; omega) | omega) (M1 := [(r0, 16, 12, .int z_1), (r0, 16, 11, .int 3), (r0, 16, 15, .int pl), (r0, 16, 16, .int pb), (bn, 0, 3, .int cn), (bv, 0, 3, .int qc_72), (bn, 0, 0, .ref an), (bv, 0, 0, .ref qa_72)]) [5, 4, 8, 9, 0, 2, 1, 3] rfl ht, hg_78, hgq_72_0, hNn_72⟩⟩, by rw [ht]; try exact hh_90.1.1, fun q h9 hq => by rw [ht]; try exact hh_90.1.2.1 q h9 hq⟩) hh_90.1.2.2 dX14_headerByte_329
                · skip
                  have c_70' : a1.toInt = 13 := jb_ne_n (rfl) ((by decide)) c_70
                  refine lv_aload_n hx hb dX14_headerByte_241 rfl (lv_at hl 0 rfl) ?_
                  refine lv_iconst (v := 4) hx hb dX14_headerByte_242 (by decide) ?_
                  refine j7_put hx hb hown hK hh_69 hB hAp hB16 (C := RX14) (T := TX14) (N := 74) rfl (by decide) hg_r0 (i := 11) (by decide) hly_16_11 rfl hlk_231 rfl (ty := .int) (v := .int 4) (by decide +kernel) rfl rfl (⟨_, rfl⟩) rfl (L1 := [(r0, 16, 12, .int z_1), (r0, 16, 13, .ref bn), (r0, 16, 14, .ref bv), (bn, 0, 3, .int cn), (bn, 0, 0, .ref an), (bv, 0, 3, .int cv), (bv, 0, 0, .ref av), (r0, 16, 15, .int pl), (r0, 16, 16, .int pb)]) [1, 2, 3, 4, 5, 6, 7, 8, 9] rfl rfl rfl dX14_headerByte_243 (fun H_96 locs_96 hh_96 => ?_)
                  clear hh_69
                  refine lv_aload_n hx hb dX14_headerByte_246 rfl (lv_at hl 0 rfl) ?_
                  obtain ⟨f_fv_99, hh_99⟩ := hh_96.cpin hB196 (by decide) (by decide) hg_an
                  clear hh_96
                  have hsz_97 := hh_99.2.2.2.2.2.1
                  have htt_97 := hh_99.2.2.2.2.2.2.1
                  refine W.room (fun hrc_97 hrs_97 => ?_)
                  refine va_calli (A0 := jA base) (H0 := s.heap) (va_runV (As := []) (rest := []) ⟨hx, hb, hml, hown, hts⟩ (uX14_isContentLength l dC dI ca base B hB hAp hB0 hB16 hB196 G0 H_96 r0 bn cn an n_an f_fv_99) (cwV 0 hts (jgV (jWr_48 _ (List.mem_of_getElem? (i := 13) rfl)) (jWr_48 _ (List.mem_of_getElem? (i := 14) rfl)) (jWr_48 _ (List.mem_of_getElem? (i := 15) rfl)) (jWr_1 _ (List.mem_of_getElem? (i := 5) rfl)) (jWr_48 _ (List.mem_of_getElem? (i := 16) rfl))) rfl rfl rfl (by decide +kernel) ⟨by rw [← hR]; exact Nat.le_of_ble_eq_true rfl, by rw [← hR]; exact Nat.le_of_ble_eq_true rfl⟩) ⟨fun a U g mk q => by obtain ⟨q0, q1, q2, qK, q10, q11, q12, q13, q14, q15⟩ := q; exact ⟨q0, q1, q2, jG.calling g mk a qK, q10, q11, q12, q13, q14, q15⟩, hh_99.recv (C := RX14) (T := TX14) (N := 74) hB16 rfl (by decide) hg_r0 hK, fun U hU hW => ⟨rfl, hU, hh_99.2.1, hG.step hW hU hh_99.1, hg_r0, hg_bn, hg_an, (hh_99.2.2.1.sub (L1 := [(r0, 16, 13, .ref bn), (bn, 0, 3, .int cn), (bn, 0, 0, .ref an)]) [2, 4, 5] rfl), (hh_99.2.2.2.2.2.2.2.1.sub (L1 := [(an, 196, n_an, ca 0, f_fv_99)]) [0] rfl), by first | omega | (refine ⟨?_, ?_, ?_⟩ <;> (first | omega | rfl | assumption | decide | exact Or.inl rfl | exact Or.inr rfl | (simp only; omega)))⟩⟩ rfl rfl hl.1 rfl (lv_room (Nat.le_of_ble_eq_true rfl)) dX14_headerByte_247 ⟨by rw [hRc]; show _ + 0 ≤ _; omega, by rw [hRs]; show _ + 0 ≤ _; omega⟩) hh_99.1 (fun q _ h => h) (fun q h => h) (fun r_98 u_97 t_97 H_97 locs_97 ht_97 hvm_97 hr_98 hb_97 hz_97 hk_97 hS_97 => ?_)
                  rw [ht_97] at hb_97
                  obtain ⟨hb_971, hb_972, hb_973, hb_974, hb_975⟩ := hb_97
                  have hh_97 : jSt (dC, dI) B base G0 G0 EX14_headerByte s.heap 0 0 [(r0, 16, 11, .int 4), (r0, 16, 12, .int z_1), (r0, 16, 13, .ref bn), (r0, 16, 14, .ref bv), (bn, 0, 3, .int cn), (bn, 0, 0, .ref an), (bv, 0, 3, .int cv), (bv, 0, 0, .ref av), (r0, 16, 15, .int pl), (r0, 16, 16, .int pb)] [(an, 196, n_an, ca 0, f_fv_99)] [] H_97 locs_97 := ((hh_99.call hb_971 hb_972 hb_973 hb_974 hS_97 rfl (L1 := [(r0, 16, 11, .int 4), (r0, 16, 12, .int z_1), (r0, 16, 13, .ref bn), (r0, 16, 14, .ref bv), (bn, 0, 3, .int cn), (bn, 0, 0, .ref an), (bv, 0, 3, .int cv), (bv, 0, 0, .ref av), (r0, 16, 15, .int pl), (r0, 16, 16, .int pb)]) [0, 1, 2, 3, 4, 5, 6, 7, 8, 9] rfl rfl (M1 := [(an, 196, n_an, ca 0, f_fv_99)]) [0] rfl rfl (I1 := []) [] rfl rfl).more hb_975)
                  clear hh_99 ht_97 hvm_97 hz_97 hk_97 hS_97 hb_971 hb_972 hb_973 hb_974 hb_975
                  obtain ⟨hr_98b, hr_98p⟩ := hr_98
                  have hr_98' := jb_01 hr_98b
                  refine lv_if_ne (tgt := 255) hx hb dX14_headerByte_250 (by decide) (fun c_100 => ?_) (fun c_100 => ?_)
                  · skip
                    have c_100' : r_98.toInt ≠ 0 := jb_ne (rfl) ((by decide)) c_100
                    refine lv_aload_n hx hb dX14_headerByte_255 rfl (lv_at hl 0 rfl) ?_
                    refine lv_aload_n hx hb dX14_headerByte_256 rfl (lv_at hl 0 rfl) ?_
                    refine lv_iconst (v := 1) hx hb dX14_headerByte_257 (by decide) ?_
                    obtain ⟨f_fv_103, hh_103⟩ := hh_97.cpin hB196 (by decide) (by decide) hg_av
                    clear hh_97
                    have hsz_101 := hh_103.2.2.2.2.2.1
                    have htt_101 := hh_103.2.2.2.2.2.2.1
                    refine W.room (fun hrc_101 hrs_101 => ?_)
                    refine va_calli (A0 := jA base) (H0 := s.heap) (va_runV (As := [.int 1]) (rest := [.ref r0]) ⟨hx, hb, hml, hown, hts⟩ (uX14_isLengthSoFar l dC dI ca base B hB hAp hB0 hB16 hB196 G0 H_97 r0 1 bv cv av n_av f_fv_103) (cwV 1 hts (jgV (jWr_49 _ (List.mem_of_getElem? (i := 14) rfl)) (jWr_49 _ (List.mem_of_getElem? (i := 15) rfl)) (jWr_49 _ (List.mem_of_getElem? (i := 16) rfl)) (jWr_1 _ (List.mem_of_getElem? (i := 5) rfl)) (jWr_49 _ (List.mem_of_getElem? (i := 17) rfl))) rfl rfl rfl (by decide +kernel) ⟨by rw [← hR]; exact Nat.le_of_ble_eq_true rfl, by rw [← hR]; exact Nat.le_of_ble_eq_true rfl⟩) ⟨fun a U g mk q => by obtain ⟨q0, q1, q2, qK, q10, q11, q12, q13, q14, q15, q16⟩ := q; exact ⟨q0, q1, q2, jG.calling g mk a qK, q10, q11, q12, q13, q14, q15, q16⟩, hh_103.recv (C := RX14) (T := TX14) (N := 74) hB16 rfl (by decide) hg_r0 hK, fun U hU hW => ⟨rfl, hU, hh_103.2.1, hG.step hW hU hh_103.1, hg_r0, (Or.inr rfl), hg_bv, hg_av, (hh_103.2.2.1.sub (L1 := [(r0, 16, 14, .ref bv), (bv, 0, 3, .int cv), (bv, 0, 0, .ref av)]) [3, 6, 7] rfl), (hh_103.2.2.2.2.2.2.2.1.sub (L1 := [(av, 196, n_av, ca 0, f_fv_103)]) [0] rfl), by first | omega | (refine ⟨?_, ?_, ?_⟩ <;> (first | omega | rfl | assumption | decide | exact Or.inl rfl | exact Or.inr rfl | (simp only; omega)))⟩⟩ rfl rfl hl.1 rfl (lv_room (Nat.le_of_ble_eq_true rfl)) dX14_headerByte_258 ⟨by rw [hRc]; show _ + 0 ≤ _; omega, by rw [hRs]; show _ + 0 ≤ _; omega⟩) hh_103.1 (fun q _ h => h) (fun q h => h) (fun r_102 u_101 t_101 H_101 locs_101 ht_101 hvm_101 hr_102 hb_101 hz_101 hk_101 hS_101 => ?_)
                    rw [ht_101] at hb_101
                    obtain ⟨hb_1011, hb_1012, hb_1013, hb_1014, hb_1015⟩ := hb_101
                    have hh_101 : jSt (dC, dI) B base G0 G0 EX14_headerByte s.heap 0 0 [(r0, 16, 11, .int 4), (r0, 16, 12, .int z_1), (r0, 16, 13, .ref bn), (r0, 16, 14, .ref bv), (bn, 0, 3, .int cn), (bn, 0, 0, .ref an), (bv, 0, 3, .int cv), (bv, 0, 0, .ref av), (r0, 16, 15, .int pl), (r0, 16, 16, .int pb)] [(av, 196, n_av, ca 0, f_fv_103), (an, 196, n_an, ca 0, f_fv_99)] [] H_101 locs_101 := ((hh_103.call hb_1011 hb_1012 hb_1013 hb_1014 hS_101 rfl (L1 := [(r0, 16, 11, .int 4), (r0, 16, 12, .int z_1), (r0, 16, 13, .ref bn), (r0, 16, 14, .ref bv), (bn, 0, 3, .int cn), (bn, 0, 0, .ref an), (bv, 0, 3, .int cv), (bv, 0, 0, .ref av), (r0, 16, 15, .int pl), (r0, 16, 16, .int pb)]) [0, 1, 2, 3, 4, 5, 6, 7, 8, 9] rfl rfl (M1 := [(av, 196, n_av, ca 0, f_fv_103), (an, 196, n_an, ca 0, f_fv_99)]) [0, 1] rfl rfl (I1 := []) [] rfl rfl).more hb_1015)
                    clear hh_103 ht_101 hvm_101 hz_101 hk_101 hS_101 hb_1011 hb_1012 hb_1013 hb_1014 hb_1015
                    obtain ⟨hr_102b, hr_102p⟩ := hr_102
                    obtain ⟨hr_102p_0, hr_102p_1, hr_102p_2⟩ := hr_102p
                    have hr_102' := jb_01 hr_102b
                    refine lv_if_eq (tgt := 271) hx hb dX14_headerByte_261 (by decide) (fun c_104 => ?_) (fun c_104 => ?_)
                    · skip
                      have c_104' : r_102.toInt = 0 := jb_eq (rfl) ((by decide)) c_104
                      refine lv_iconst (v := (-1)) hx hb dX14_headerByte_271 (by decide) ?_
                      refine j7_put hx hb hown hK hh_101 hB hAp hB16 (C := RX14) (T := TX14) (N := 74) rfl (by decide) hg_r0 (i := 15) (by decide) hly_16_15 rfl hlk_33 rfl (ty := .int) (v := .int (-1)) (by decide +kernel) rfl rfl (⟨_, rfl, by omega, by omega⟩) rfl (L1 := [(r0, 16, 11, .int 4), (r0, 16, 12, .int z_1), (r0, 16, 13, .ref bn), (r0, 16, 14, .ref bv), (bn, 0, 3, .int cn), (bn, 0, 0, .ref an), (bv, 0, 3, .int cv), (bv, 0, 0, .ref av), (r0, 16, 16, .int pb)]) [0, 1, 2, 3, 4, 5, 6, 7, 9] rfl rfl rfl dX14_headerByte_272 (fun H_105 locs_105 hh_105 => ?_)
                      clear hh_101
                      refine lv_aload_n hx hb dX14_headerByte_275 rfl (lv_at hl 0 rfl) ?_
                      refine j7_read hx hb hown hK (C := RX14) (T := TX14) (N := 74) rfl hly_16_15 hlk_33 (hh_105.at 0 rfl) dX14_headerByte_276 ?_
                      refine lv_if_lt (tgt := 286) hx hb dX14_headerByte_279 (by decide) (fun c_106 => ?_) (fun c_106 => ?_)
                      · skip
                        refine lv_iconst (v := 0) hx hb dX14_headerByte_286 (by decide) ?_
                        have hsz_107 := hh_105.2.2.2.2.2.1
                        have htt_107 := hh_105.2.2.2.2.2.2.1
                        refine W.room (fun hrc_107 hrs_107 => ?_)
                        refine W.widen (k := LC - s.heap.size) (n := LS - jTot s.heap) (by omega) (by omega) ?_
                        rw [hQ]
                        exact W.zret (v := 0) hx hb hr (jb_nz (Or.inl rfl)) (fun t ht hW => ⟨⟨0, (z_1, 4, (-1), pb, cn, cv, an, n_an, av, n_av, G0), rfl, ⟨(Or.inl rfl), by (try dsimp only); exact ⟨(by first | omega | rfl | assumption | fail), (by first | omega | rfl | assumption | fail), (by first | omega | rfl | assumption | fail), (by first | omega | rfl | assumption | fail), (by first | omega | rfl | assumption | fail), (by first | omega | rfl | assumption | fail), (by first | omega | rfl | assumption | fail), (by first | omega | rfl | assumption | fail), (by first | omega | rfl | assumption | fail), (by first | omega | rfl | assumption | fail), (by first | omega | rfl | assumption | fail), (by first | omega | rfl | assumption | fail), (by first | omega | rfl | assumption | fail), (by first | omega | rfl | assumption | fail)⟩⟩, ⟨hh_105.ra (by first | (simp only; omega) | omega) (by first | (simp only; omega) | omega) (M1 := [(r0, 16, 12, .int z_1), (r0, 16, 11, .int 4), (r0, 16, 15, .int (-1)), (r0, 16, 16, .int pb), (bn, 0, 3, .int cn), (bv, 0, 3, .int cv), (bn, 0, 0, .ref an), (bv, 0, 0, .ref av)]) [2, 1, 0, 9, 5, 7, 6, 8] rfl ht, hg_an, hg_av, jNk.rf⟩⟩, by rw [ht]; try exact hh_105.1.1, fun q h9 hq => by rw [ht]; try exact hh_105.1.2.1 q h9 hq⟩) hh_105.1.2.2 dX14_headerByte_287
                      · skip
                        exact absurd c_106 (by decide)
                    · skip
                      have c_104' : r_102.toInt ≠ 0 := jb_eq_n (rfl) ((by decide)) c_104
                      obtain ⟨hl4, hl5, hl6⟩ := hr_102p_2 (by omega)
                      refine lv_aload_n hx hb dX14_headerByte_264 rfl (lv_at hl 0 rfl) ?_
                      have hsz_108 := hh_101.2.2.2.2.2.1
                      have htt_108 := hh_101.2.2.2.2.2.2.1
                      refine W.room (fun hrc_108 hrs_108 => ?_)
                      refine va_calli (A0 := jA base) (H0 := s.heap) (va_runV (As := []) (rest := [.ref r0]) ⟨hx, hb, hml, hown, hts⟩ (uX14_lengthTold l dC dI ca base B hB hAp hB0 hB16 hB196 G0 H_101 r0 bv cv av n_av f_fv_103) (cwV 0 hts (jgV (jWr_49 _ (List.mem_of_getElem? (i := 21) rfl)) (jWr_49 _ (List.mem_of_getElem? (i := 22) rfl)) (jWr_49 _ (List.mem_of_getElem? (i := 23) rfl)) (jWr_1 _ (List.mem_of_getElem? (i := 5) rfl)) (jWr_50 _ (List.mem_of_getElem? (i := 0) rfl))) rfl rfl rfl (by decide +kernel) ⟨by rw [← hR]; exact Nat.le_of_ble_eq_true rfl, by rw [← hR]; exact Nat.le_of_ble_eq_true rfl⟩) ⟨fun a U g mk q => by obtain ⟨q0, q1, q2, qK, q10, q11, q12, q13, q14, q15⟩ := q; exact ⟨q0, q1, q2, jG.calling g mk a qK, q10, q11, q12, q13, q14, q15⟩, hh_101.recv (C := RX14) (T := TX14) (N := 74) hB16 rfl (by decide) hg_r0 hK, fun U hU hW => ⟨rfl, hU, hh_101.2.1, hG.step hW hU hh_101.1, hg_r0, hg_bv, hg_av, (hh_101.2.2.1.sub (L1 := [(r0, 16, 14, .ref bv), (bv, 0, 3, .int cv), (bv, 0, 0, .ref av)]) [3, 6, 7] rfl), (hh_101.2.2.2.2.2.2.2.1.sub (L1 := [(av, 196, n_av, ca 0, f_fv_103)]) [0] rfl), by first | omega | (refine ⟨?_, ?_, ?_, ?_, ?_⟩ <;> (first | omega | rfl | assumption | decide | exact Or.inl rfl | exact Or.inr rfl | (simp only; omega)))⟩⟩ rfl rfl hl.1 rfl (lv_room (Nat.le_of_ble_eq_true rfl)) dX14_headerByte_265 ⟨by rw [hRc]; show _ + 0 ≤ _; omega, by rw [hRs]; show _ + 0 ≤ _; omega⟩) hh_101.1 (fun q _ h => h) (fun q h => h) (fun r_109 u_108 t_108 H_108 locs_108 ht_108 hvm_108 hr_109 hb_108 hz_108 hk_108 hS_108 => ?_)
                      rw [ht_108] at hb_108
                      obtain ⟨hb_1081, hb_1082, hb_1083, hb_1084, hb_1085⟩ := hb_108
                      have hh_108 : jSt (dC, dI) B base G0 G0 EX14_headerByte s.heap 0 0 [(r0, 16, 11, .int 4), (r0, 16, 12, .int z_1), (r0, 16, 13, .ref bn), (r0, 16, 14, .ref bv), (bn, 0, 3, .int cn), (bn, 0, 0, .ref an), (bv, 0, 3, .int cv), (bv, 0, 0, .ref av), (r0, 16, 15, .int pl), (r0, 16, 16, .int pb)] [(av, 196, n_av, ca 0, f_fv_103), (an, 196, n_an, ca 0, f_fv_99)] [] H_108 locs_108 := ((hh_101.call hb_1081 hb_1082 hb_1083 hb_1084 hS_108 rfl (L1 := [(r0, 16, 11, .int 4), (r0, 16, 12, .int z_1), (r0, 16, 13, .ref bn), (r0, 16, 14, .ref bv), (bn, 0, 3, .int cn), (bn, 0, 0, .ref an), (bv, 0, 3, .int cv), (bv, 0, 0, .ref av), (r0, 16, 15, .int pl), (r0, 16, 16, .int pb)]) [0, 1, 2, 3, 4, 5, 6, 7, 8, 9] rfl rfl (M1 := [(av, 196, n_av, ca 0, f_fv_103), (an, 196, n_an, ca 0, f_fv_99)]) [0, 1] rfl rfl (I1 := []) [] rfl rfl).more hb_1085)
                      clear hh_101 ht_108 hvm_108 hz_108 hk_108 hS_108 hb_1081 hb_1082 hb_1083 hb_1084 hb_1085
                      have hl7 := jNm_0 hl5 cv.toInt.toNat (by omega)
                      rw [← hr_109] at hl6 hl7
                      refine lv_goto (tgt := 272) hx hb dX14_headerByte_268 (by decide) ?_
                      refine j7_put hx hb hown hK hh_108 hB hAp hB16 (C := RX14) (T := TX14) (N := 74) rfl (by decide) hg_r0 (i := 15) (by decide) hly_16_15 rfl hlk_33 rfl (ty := .int) (v := .int r_109) (by decide +kernel) rfl rfl (⟨_, rfl, by omega, by omega⟩) rfl (L1 := [(r0, 16, 11, .int 4), (r0, 16, 12, .int z_1), (r0, 16, 13, .ref bn), (r0, 16, 14, .ref bv), (bn, 0, 3, .int cn), (bn, 0, 0, .ref an), (bv, 0, 3, .int cv), (bv, 0, 0, .ref av), (r0, 16, 16, .int pb)]) [0, 1, 2, 3, 4, 5, 6, 7, 9] rfl rfl rfl dX14_headerByte_272 (fun H_110 locs_110 hh_110 => ?_)
                      clear hh_108
                      refine lv_aload_n hx hb dX14_headerByte_275 rfl (lv_at hl 0 rfl) ?_
                      refine j7_read hx hb hown hK (C := RX14) (T := TX14) (N := 74) rfl hly_16_15 hlk_33 (hh_110.at 0 rfl) dX14_headerByte_276 ?_
                      refine lv_if_lt (tgt := 286) hx hb dX14_headerByte_279 (by decide) (fun c_111 => ?_) (fun c_111 => ?_)
                      · skip
                        have c_111' : r_109.toInt < 0 := jb_lt (rfl) ((by decide)) c_111
                        refine lv_iconst (v := 0) hx hb dX14_headerByte_286 (by decide) ?_
                        have hsz_112 := hh_110.2.2.2.2.2.1
                        have htt_112 := hh_110.2.2.2.2.2.2.1
                        refine W.room (fun hrc_112 hrs_112 => ?_)
                        refine W.widen (k := LC - s.heap.size) (n := LS - jTot s.heap) (by omega) (by omega) ?_
                        rw [hQ]
                        exact W.zret (v := 0) hx hb hr (jb_nz (Or.inl rfl)) (fun t ht hW => ⟨⟨0, (z_1, 4, r_109, pb, cn, cv, an, n_an, av, n_av, G0), rfl, ⟨(Or.inl rfl), by (try dsimp only); exact ⟨(by first | omega | rfl | assumption | fail), (by first | omega | rfl | assumption | fail), (by first | omega | rfl | assumption | fail), (by first | omega | rfl | assumption | fail), (by first | omega | rfl | assumption | fail), (by first | omega | rfl | assumption | fail), (by first | omega | rfl | assumption | fail), (by first | omega | rfl | assumption | fail), (by first | omega | rfl | assumption | fail), (by first | omega | rfl | assumption | fail), (by first | omega | rfl | assumption | fail), (by first | omega | rfl | assumption | fail), (by first | omega | rfl | assumption | fail), (by first | omega | rfl | assumption | fail)⟩⟩, ⟨hh_110.ra (by first | (simp only; omega) | omega) (by first | (simp only; omega) | omega) (M1 := [(r0, 16, 12, .int z_1), (r0, 16, 11, .int 4), (r0, 16, 15, .int r_109), (r0, 16, 16, .int pb), (bn, 0, 3, .int cn), (bv, 0, 3, .int cv), (bn, 0, 0, .ref an), (bv, 0, 0, .ref av)]) [2, 1, 0, 9, 5, 7, 6, 8] rfl ht, hg_an, hg_av, jNk.rf⟩⟩, by rw [ht]; try exact hh_110.1.1, fun q h9 hq => by rw [ht]; try exact hh_110.1.2.1 q h9 hq⟩) hh_110.1.2.2 dX14_headerByte_287
                      · skip
                        have c_111' : r_109.toInt ≥ 0 := jb_lt_n (rfl) ((by decide)) c_111
                        refine lv_iconst (v := 1) hx hb dX14_headerByte_282 (by decide) ?_
                        refine lv_goto (tgt := 287) hx hb dX14_headerByte_283 (by decide) ?_
                        have hsz_113 := hh_110.2.2.2.2.2.1
                        have htt_113 := hh_110.2.2.2.2.2.2.1
                        refine W.room (fun hrc_113 hrs_113 => ?_)
                        refine W.widen (k := LC - s.heap.size) (n := LS - jTot s.heap) (by omega) (by omega) ?_
                        rw [hQ]
                        exact W.zret (v := 1) hx hb hr (jb_nz (Or.inr rfl)) (fun t ht hW => ⟨⟨1, (z_1, 4, r_109, pb, cn, cv, an, n_an, av, n_av, G0), rfl, ⟨(Or.inr rfl), by (try dsimp only); exact ⟨(by first | omega | rfl | assumption | fail), (by first | omega | rfl | assumption | fail), (by first | omega | rfl | assumption | fail), (by first | omega | rfl | assumption | fail), (by first | omega | rfl | assumption | fail), (by first | omega | rfl | assumption | fail), (by first | omega | rfl | assumption | fail), (by first | omega | rfl | assumption | fail), (by first | omega | rfl | assumption | fail), (by first | omega | rfl | assumption | fail), (by first | omega | rfl | assumption | fail), (by first | omega | rfl | assumption | fail), (by first | omega | rfl | assumption | fail), (by first | omega | rfl | assumption | fail)⟩⟩, ⟨hh_110.ra (by first | (simp only; omega) | omega) (by first | (simp only; omega) | omega) (M1 := [(r0, 16, 12, .int z_1), (r0, 16, 11, .int 4), (r0, 16, 15, .int r_109), (r0, 16, 16, .int pb), (bn, 0, 3, .int cn), (bv, 0, 3, .int cv), (bn, 0, 0, .ref an), (bv, 0, 0, .ref av)]) [2, 1, 0, 9, 5, 7, 6, 8] rfl ht, hg_an, hg_av, jNk.rf⟩⟩, by rw [ht]; try exact hh_110.1.1, fun q h9 hq => by rw [ht]; try exact hh_110.1.2.1 q h9 hq⟩) hh_110.1.2.2 dX14_headerByte_287
                  · skip
                    have c_100' : r_98.toInt = 0 := jb_ne_n (rfl) ((by decide)) c_100
                    refine lv_iconst (v := 1) hx hb dX14_headerByte_253 (by decide) ?_
                    have hsz_114 := hh_97.2.2.2.2.2.1
                    have htt_114 := hh_97.2.2.2.2.2.2.1
                    refine W.room (fun hrc_114 hrs_114 => ?_)
                    refine W.widen (k := LC - s.heap.size) (n := LS - jTot s.heap) (by omega) (by omega) ?_
                    rw [hQ]
                    exact W.zret (v := 1) hx hb hr (jb_nz (Or.inr rfl)) (fun t ht hW => ⟨⟨1, (z_1, 4, pl, pb, cn, cv, an, n_an, av, n_av, G0), rfl, ⟨(Or.inr rfl), by (try dsimp only); exact ⟨(by first | omega | rfl | assumption | fail), (by first | omega | rfl | assumption | fail), (by first | omega | rfl | assumption | fail), (by first | omega | rfl | assumption | fail), (by first | omega | rfl | assumption | fail), (by first | omega | rfl | assumption | fail), (by first | omega | rfl | assumption | fail), (by first | omega | rfl | assumption | fail), (by first | omega | rfl | assumption | fail), (by first | omega | rfl | assumption | fail), (by first | omega | rfl | assumption | fail), (by first | omega | rfl | assumption | fail), (by first | omega | rfl | assumption | fail), (by first | omega | rfl | assumption | fail)⟩⟩, ⟨hh_97.ra (by first | (simp only; omega) | omega) (by first | (simp only; omega) | omega) (M1 := [(r0, 16, 12, .int z_1), (r0, 16, 11, .int 4), (r0, 16, 15, .int pl), (r0, 16, 16, .int pb), (bn, 0, 3, .int cn), (bv, 0, 3, .int cv), (bn, 0, 0, .ref an), (bv, 0, 0, .ref av)]) [1, 0, 8, 9, 4, 6, 5, 7] rfl ht, hg_an, hg_av, jNk.rf⟩⟩, by rw [ht]; try exact hh_97.1.1, fun q h9 hq => by rw [ht]; try exact hh_97.1.2.1 q h9 hq⟩) hh_97.1.2.2 dX14_headerByte_254
              · skip
                have c_68' : a1.toInt = 32 := jb_ne_n (rfl) ((by decide)) c_68
                refine lv_iconst (v := 1) hx hb dX14_headerByte_228 (by decide) ?_
                have hsz_115 := hh_2.2.2.2.2.2.1
                have htt_115 := hh_2.2.2.2.2.2.2.1
                refine W.room (fun hrc_115 hrs_115 => ?_)
                refine W.widen (k := LC - s.heap.size) (n := LS - jTot s.heap) (by omega) (by omega) ?_
                rw [hQ]
                exact W.zret (v := 1) hx hb hr (jb_nz (Or.inr rfl)) (fun t ht hW => ⟨⟨1, (z_1, pm, pl, pb, cn, cv, an, n_an, av, n_av, G0), rfl, ⟨(Or.inr rfl), by (try dsimp only); exact ⟨(by first | omega | rfl | assumption | fail), (by first | omega | rfl | assumption | fail), (by first | omega | rfl | assumption | fail), (by first | omega | rfl | assumption | fail), (by first | omega | rfl | assumption | fail), (by first | omega | rfl | assumption | fail), (by first | omega | rfl | assumption | fail), (by first | omega | rfl | assumption | fail), (by first | omega | rfl | assumption | fail), (by first | omega | rfl | assumption | fail), (by first | omega | rfl | assumption | fail), (by first | omega | rfl | assumption | fail), (by first | omega | rfl | assumption | fail), (by first | omega | rfl | assumption | fail)⟩⟩, ⟨hh_2.ra (by first | (simp only; omega) | omega) (by first | (simp only; omega) | omega) (M1 := [(r0, 16, 12, .int z_1), (r0, 16, 11, .int pm), (r0, 16, 15, .int pl), (r0, 16, 16, .int pb), (bn, 0, 3, .int cn), (bv, 0, 3, .int cv), (bn, 0, 0, .ref an), (bv, 0, 0, .ref av)]) [0, 7, 8, 9, 3, 5, 4, 6] rfl ht, hg_an, hg_av, jNk.rf⟩⟩, by rw [ht]; try exact hh_2.1.1, fun q h9 hq => by rw [ht]; try exact hh_2.1.2.1 q h9 hq⟩) hh_2.1.2.2 dX14_headerByte_229
          · skip
            have c_20' : pm.toInt = 5 := jb_ne_n (rfl) ((by decide)) c_20
            refine lv_aload_n hx hb dX14_headerByte_169 rfl (lv_at hl 0 rfl) ?_
            refine j7_read hx hb hown hK (C := RX14) (T := TX14) (N := 74) rfl hly_16_11 hlk_231 (hh_2.at 7 rfl) dX14_headerByte_170 ?_
            refine lv_iconst (v := 5) hx hb dX14_headerByte_173 (by decide) ?_
            refine lv_icmp_ne (tgt := 181) hx hb dX14_headerByte_174 (by decide) (fun c_116 => ?_) (fun c_116 => ?_)
            · skip
              have c_116' : pm.toInt ≠ 5 := jb_ne (rfl) ((by decide)) c_116
              refine lv_iconst (v := 0) hx hb dX14_headerByte_181 (by decide) ?_
              refine lv_istore_n (lv' := [(2, .int 0), (0, .ref r0), (1, .int a1)]) hx hb dX14_headerByte_182 rfl hl (by decide) rfl (fun ls hl => ?_)
              refine lv_aload_n hx hb dX14_headerByte_183 rfl (lv_at hl 1 rfl) ?_
              refine lv_iload_n hx hb dX14_headerByte_184 rfl (lv_at hl 0 rfl) ?_
              refine lv_if_eq (tgt := 193) hx hb dX14_headerByte_185 (by decide) (fun c_117 => ?_) (fun c_117 => ?_)
              · skip
                refine lv_iconst (v := 0) hx hb dX14_headerByte_193 (by decide) ?_
                refine j7_put hx hb hown hK hh_2 hB hAp hB16 (C := RX14) (T := TX14) (N := 74) rfl (by decide) hg_r0 (i := 11) (by decide) hly_16_11 rfl hlk_231 rfl (ty := .int) (v := .int 0) (by decide +kernel) rfl rfl (⟨_, rfl⟩) rfl (L1 := [(r0, 16, 12, .int z_1), (r0, 16, 13, .ref bn), (r0, 16, 14, .ref bv), (bn, 0, 3, .int cn), (bn, 0, 0, .ref an), (bv, 0, 3, .int cv), (bv, 0, 0, .ref av), (r0, 16, 15, .int pl), (r0, 16, 16, .int pb)]) [0, 1, 2, 3, 4, 5, 6, 8, 9] rfl rfl rfl dX14_headerByte_194 (fun H_118 locs_118 hh_118 => ?_)
                clear hh_2
                refine lv_aload_n hx hb dX14_headerByte_197 rfl (lv_at hl 1 rfl) ?_
                refine lv_iconst (v := 0) hx hb dX14_headerByte_198 (by decide) ?_
                refine j7_put hx hb hown hK hh_118 hB hAp hB16 (C := RX14) (T := TX14) (N := 74) rfl (by decide) hg_r0 (i := 16) (by decide) hly_16_16 rfl hlk_244 rfl (ty := .int) (v := .int 0) (by decide +kernel) rfl rfl (⟨_, rfl⟩) rfl (L1 := [(r0, 16, 11, .int 0), (r0, 16, 12, .int z_1), (r0, 16, 13, .ref bn), (r0, 16, 14, .ref bv), (bn, 0, 3, .int cn), (bn, 0, 0, .ref an), (bv, 0, 3, .int cv), (bv, 0, 0, .ref av), (r0, 16, 15, .int pl)]) [0, 1, 2, 3, 4, 5, 6, 7, 8] rfl rfl rfl dX14_headerByte_199 (fun H_119 locs_119 hh_119 => ?_)
                clear hh_118
                refine lv_iload_n hx hb dX14_headerByte_202 rfl (lv_at hl 2 rfl) ?_
                refine lv_bipush (v := 10) hx hb dX14_headerByte_203 (by decide) ?_
                refine lv_icmp_ne (tgt := 212) hx hb dX14_headerByte_205 (by decide) (fun c_120 => ?_) (fun c_120 => ?_)
                · skip
                  have c_120' : a1.toInt ≠ 10 := jb_ne (rfl) ((by decide)) c_120
                  refine lv_iconst (v := 0) hx hb dX14_headerByte_212 (by decide) ?_
                  have hsz_121 := hh_119.2.2.2.2.2.1
                  have htt_121 := hh_119.2.2.2.2.2.2.1
                  refine W.room (fun hrc_121 hrs_121 => ?_)
                  refine W.widen (k := LC - s.heap.size) (n := LS - jTot s.heap) (by omega) (by omega) ?_
                  rw [hQ]
                  exact W.zret (v := 0) hx hb hr (jb_nz (Or.inl rfl)) (fun t ht hW => ⟨⟨0, (z_1, 0, pl, 0, cn, cv, an, n_an, av, n_av, G0), rfl, ⟨(Or.inl rfl), by (try dsimp only); exact ⟨(by first | omega | rfl | assumption | fail), (by first | omega | rfl | assumption | fail), (by first | omega | rfl | assumption | fail), (by first | omega | rfl | assumption | fail), (by first | omega | rfl | assumption | fail), (by first | omega | rfl | assumption | fail), (by first | omega | rfl | assumption | fail), (by first | omega | rfl | assumption | fail), (by first | omega | rfl | assumption | fail), (by first | omega | rfl | assumption | fail), (by first | omega | rfl | assumption | fail), (by first | omega | rfl | assumption | fail), (by first | omega | rfl | assumption | fail), (by first | omega | rfl | assumption | fail)⟩⟩, ⟨hh_119.ra (by first | (simp only; omega) | omega) (by first | (simp only; omega) | omega) (M1 := [(r0, 16, 12, .int z_1), (r0, 16, 11, .int 0), (r0, 16, 15, .int pl), (r0, 16, 16, .int 0), (bn, 0, 3, .int cn), (bv, 0, 3, .int cv), (bn, 0, 0, .ref an), (bv, 0, 0, .ref av)]) [2, 1, 9, 0, 5, 7, 6, 8] rfl ht, hg_an, hg_av, jNk.rf⟩⟩, by rw [ht]; try exact hh_119.1.1, fun q h9 hq => by rw [ht]; try exact hh_119.1.2.1 q h9 hq⟩) hh_119.1.2.2 dX14_headerByte_213
                · skip
                  have c_120' : a1.toInt = 10 := jb_ne_n (rfl) ((by decide)) c_120
                  refine lv_iconst (v := 1) hx hb dX14_headerByte_208 (by decide) ?_
                  refine lv_goto (tgt := 213) hx hb dX14_headerByte_209 (by decide) ?_
                  have hsz_122 := hh_119.2.2.2.2.2.1
                  have htt_122 := hh_119.2.2.2.2.2.2.1
                  refine W.room (fun hrc_122 hrs_122 => ?_)
                  refine W.widen (k := LC - s.heap.size) (n := LS - jTot s.heap) (by omega) (by omega) ?_
                  rw [hQ]
                  exact W.zret (v := 1) hx hb hr (jb_nz (Or.inr rfl)) (fun t ht hW => ⟨⟨1, (z_1, 0, pl, 0, cn, cv, an, n_an, av, n_av, G0), rfl, ⟨(Or.inr rfl), by (try dsimp only); exact ⟨(by first | omega | rfl | assumption | fail), (by first | omega | rfl | assumption | fail), (by first | omega | rfl | assumption | fail), (by first | omega | rfl | assumption | fail), (by first | omega | rfl | assumption | fail), (by first | omega | rfl | assumption | fail), (by first | omega | rfl | assumption | fail), (by first | omega | rfl | assumption | fail), (by first | omega | rfl | assumption | fail), (by first | omega | rfl | assumption | fail), (by first | omega | rfl | assumption | fail), (by first | omega | rfl | assumption | fail), (by first | omega | rfl | assumption | fail), (by first | omega | rfl | assumption | fail)⟩⟩, ⟨hh_119.ra (by first | (simp only; omega) | omega) (by first | (simp only; omega) | omega) (M1 := [(r0, 16, 12, .int z_1), (r0, 16, 11, .int 0), (r0, 16, 15, .int pl), (r0, 16, 16, .int 0), (bn, 0, 3, .int cn), (bv, 0, 3, .int cv), (bn, 0, 0, .ref an), (bv, 0, 0, .ref av)]) [2, 1, 9, 0, 5, 7, 6, 8] rfl ht, hg_an, hg_av, jNk.rf⟩⟩, by rw [ht]; try exact hh_119.1.1, fun q h9 hq => by rw [ht]; try exact hh_119.1.2.1 q h9 hq⟩) hh_119.1.2.2 dX14_headerByte_213
              · skip
                exact absurd c_117 (by decide)
            · skip
              have c_116' : pm.toInt = 5 := jb_ne_n (rfl) ((by decide)) c_116
              refine lv_iconst (v := 1) hx hb dX14_headerByte_177 (by decide) ?_
              refine lv_goto (tgt := 182) hx hb dX14_headerByte_178 (by decide) ?_
              refine lv_istore_n (lv' := [(2, .int 1), (0, .ref r0), (1, .int a1)]) hx hb dX14_headerByte_182 rfl hl (by decide) rfl (fun ls hl => ?_)
              refine lv_aload_n hx hb dX14_headerByte_183 rfl (lv_at hl 1 rfl) ?_
              refine lv_iload_n hx hb dX14_headerByte_184 rfl (lv_at hl 0 rfl) ?_
              refine lv_if_eq (tgt := 193) hx hb dX14_headerByte_185 (by decide) (fun c_123 => ?_) (fun c_123 => ?_)
              · skip
                exact absurd c_123 (by decide)
              · skip
                refine lv_bipush (v := 6) hx hb dX14_headerByte_188 (by decide) ?_
                refine lv_goto (tgt := 194) hx hb dX14_headerByte_190 (by decide) ?_
                refine j7_put hx hb hown hK hh_2 hB hAp hB16 (C := RX14) (T := TX14) (N := 74) rfl (by decide) hg_r0 (i := 11) (by decide) hly_16_11 rfl hlk_231 rfl (ty := .int) (v := .int 6) (by decide +kernel) rfl rfl (⟨_, rfl⟩) rfl (L1 := [(r0, 16, 12, .int z_1), (r0, 16, 13, .ref bn), (r0, 16, 14, .ref bv), (bn, 0, 3, .int cn), (bn, 0, 0, .ref an), (bv, 0, 3, .int cv), (bv, 0, 0, .ref av), (r0, 16, 15, .int pl), (r0, 16, 16, .int pb)]) [0, 1, 2, 3, 4, 5, 6, 8, 9] rfl rfl rfl dX14_headerByte_194 (fun H_124 locs_124 hh_124 => ?_)
                clear hh_2
                refine lv_aload_n hx hb dX14_headerByte_197 rfl (lv_at hl 1 rfl) ?_
                refine lv_iconst (v := 0) hx hb dX14_headerByte_198 (by decide) ?_
                refine j7_put hx hb hown hK hh_124 hB hAp hB16 (C := RX14) (T := TX14) (N := 74) rfl (by decide) hg_r0 (i := 16) (by decide) hly_16_16 rfl hlk_244 rfl (ty := .int) (v := .int 0) (by decide +kernel) rfl rfl (⟨_, rfl⟩) rfl (L1 := [(r0, 16, 11, .int 6), (r0, 16, 12, .int z_1), (r0, 16, 13, .ref bn), (r0, 16, 14, .ref bv), (bn, 0, 3, .int cn), (bn, 0, 0, .ref an), (bv, 0, 3, .int cv), (bv, 0, 0, .ref av), (r0, 16, 15, .int pl)]) [0, 1, 2, 3, 4, 5, 6, 7, 8] rfl rfl rfl dX14_headerByte_199 (fun H_125 locs_125 hh_125 => ?_)
                clear hh_124
                refine lv_iload_n hx hb dX14_headerByte_202 rfl (lv_at hl 2 rfl) ?_
                refine lv_bipush (v := 10) hx hb dX14_headerByte_203 (by decide) ?_
                refine lv_icmp_ne (tgt := 212) hx hb dX14_headerByte_205 (by decide) (fun c_126 => ?_) (fun c_126 => ?_)
                · skip
                  have c_126' : a1.toInt ≠ 10 := jb_ne (rfl) ((by decide)) c_126
                  refine lv_iconst (v := 0) hx hb dX14_headerByte_212 (by decide) ?_
                  have hsz_127 := hh_125.2.2.2.2.2.1
                  have htt_127 := hh_125.2.2.2.2.2.2.1
                  refine W.room (fun hrc_127 hrs_127 => ?_)
                  refine W.widen (k := LC - s.heap.size) (n := LS - jTot s.heap) (by omega) (by omega) ?_
                  rw [hQ]
                  exact W.zret (v := 0) hx hb hr (jb_nz (Or.inl rfl)) (fun t ht hW => ⟨⟨0, (z_1, 6, pl, 0, cn, cv, an, n_an, av, n_av, G0), rfl, ⟨(Or.inl rfl), by (try dsimp only); exact ⟨(by first | omega | rfl | assumption | fail), (by first | omega | rfl | assumption | fail), (by first | omega | rfl | assumption | fail), (by first | omega | rfl | assumption | fail), (by first | omega | rfl | assumption | fail), (by first | omega | rfl | assumption | fail), (by first | omega | rfl | assumption | fail), (by first | omega | rfl | assumption | fail), (by first | omega | rfl | assumption | fail), (by first | omega | rfl | assumption | fail), (by first | omega | rfl | assumption | fail), (by first | omega | rfl | assumption | fail), (by first | omega | rfl | assumption | fail), (by first | omega | rfl | assumption | fail)⟩⟩, ⟨hh_125.ra (by first | (simp only; omega) | omega) (by first | (simp only; omega) | omega) (M1 := [(r0, 16, 12, .int z_1), (r0, 16, 11, .int 6), (r0, 16, 15, .int pl), (r0, 16, 16, .int 0), (bn, 0, 3, .int cn), (bv, 0, 3, .int cv), (bn, 0, 0, .ref an), (bv, 0, 0, .ref av)]) [2, 1, 9, 0, 5, 7, 6, 8] rfl ht, hg_an, hg_av, jNk.rf⟩⟩, by rw [ht]; try exact hh_125.1.1, fun q h9 hq => by rw [ht]; try exact hh_125.1.2.1 q h9 hq⟩) hh_125.1.2.2 dX14_headerByte_213
                · skip
                  have c_126' : a1.toInt = 10 := jb_ne_n (rfl) ((by decide)) c_126
                  refine lv_iconst (v := 1) hx hb dX14_headerByte_208 (by decide) ?_
                  refine lv_goto (tgt := 213) hx hb dX14_headerByte_209 (by decide) ?_
                  have hsz_128 := hh_125.2.2.2.2.2.1
                  have htt_128 := hh_125.2.2.2.2.2.2.1
                  refine W.room (fun hrc_128 hrs_128 => ?_)
                  refine W.widen (k := LC - s.heap.size) (n := LS - jTot s.heap) (by omega) (by omega) ?_
                  rw [hQ]
                  exact W.zret (v := 1) hx hb hr (jb_nz (Or.inr rfl)) (fun t ht hW => ⟨⟨1, (z_1, 6, pl, 0, cn, cv, an, n_an, av, n_av, G0), rfl, ⟨(Or.inr rfl), by (try dsimp only); exact ⟨(by first | omega | rfl | assumption | fail), (by first | omega | rfl | assumption | fail), (by first | omega | rfl | assumption | fail), (by first | omega | rfl | assumption | fail), (by first | omega | rfl | assumption | fail), (by first | omega | rfl | assumption | fail), (by first | omega | rfl | assumption | fail), (by first | omega | rfl | assumption | fail), (by first | omega | rfl | assumption | fail), (by first | omega | rfl | assumption | fail), (by first | omega | rfl | assumption | fail), (by first | omega | rfl | assumption | fail), (by first | omega | rfl | assumption | fail), (by first | omega | rfl | assumption | fail)⟩⟩, ⟨hh_125.ra (by first | (simp only; omega) | omega) (by first | (simp only; omega) | omega) (M1 := [(r0, 16, 12, .int z_1), (r0, 16, 11, .int 6), (r0, 16, 15, .int pl), (r0, 16, 16, .int 0), (bn, 0, 3, .int cn), (bv, 0, 3, .int cv), (bn, 0, 0, .ref an), (bv, 0, 0, .ref av)]) [2, 1, 9, 0, 5, 7, 6, 8] rfl ht, hg_an, hg_av, jNk.rf⟩⟩, by rw [ht]; try exact hh_125.1.1, fun q h9 hq => by rw [ht]; try exact hh_125.1.2.1 q h9 hq⟩) hh_125.1.2.2 dX14_headerByte_213
      · skip
        have c_5' : pm.toInt = 1 := jb_ne_n (rfl) ((by decide)) c_5
        refine lv_iload_n hx hb dX14_headerByte_111 rfl (lv_at hl 1 rfl) ?_
        refine lv_bipush (v := 58) hx hb dX14_headerByte_112 (by decide) ?_
        refine lv_icmp_ne (tgt := 124) hx hb dX14_headerByte_114 (by decide) (fun c_129 => ?_) (fun c_129 => ?_)
        · skip
          have c_129' : a1.toInt ≠ 58 := jb_ne (rfl) ((by decide)) c_129
          refine lv_aload_n hx hb dX14_headerByte_124 rfl (lv_at hl 0 rfl) ?_
          refine j7_read hx hb hown hK (C := RX14) (T := TX14) (N := 74) rfl hly_16_13 hlk_26 (hh_2.at 1 rfl) dX14_headerByte_125 ?_
          refine lv_iload_n hx hb dX14_headerByte_128 rfl (lv_at hl 1 rfl) ?_
          refine lv_i2c hx hb dX14_headerByte_129 rfl ?_
          refine lv_topi (fun z_130 ez_130 => ?_)
          have hic := jb_i2c (by assumption) hp16 hp17
          have hsz_131 := hh_2.2.2.2.2.2.1
          have htt_131 := hh_2.2.2.2.2.2.2.1
          refine W.room (fun hrc_131 hrs_131 => ?_)
          refine j_callx (A0 := jA base) (H0 := s.heap) (va_runV (As := [.int z_130]) (rest := []) ⟨hx, hb, hml, hown, hts⟩ (uJ4_append_cf468M l dC dI ca base B hB hAp hB0 hB196 G0 H_2 bn z_130 cn an n_an LC LS) (cwV 1 hts (jgV (jWr_46 _ (List.mem_of_getElem? (i := 18) rfl)) (jWr_46 _ (List.mem_of_getElem? (i := 19) rfl)) (jWr_46 _ (List.mem_of_getElem? (i := 20) rfl)) (jWr_11 _ (List.mem_of_getElem? (i := 0) rfl)) (jWr_46 _ (List.mem_of_getElem? (i := 21) rfl))) rfl rfl rfl (by decide +kernel) ⟨by rw [← hR]; exact Nat.le_of_ble_eq_true rfl, by rw [← hR]; exact Nat.le_of_ble_eq_true rfl⟩) ⟨fun a U g mk q => by obtain ⟨q0, q1, q2, qK, q10, q11, q12, q13⟩ := q; exact ⟨q0, q1, q2, jG.calling g mk a qK, q10, q11, q12, q13⟩, hh_2.recv (C := RJ4) (T := TJ4) (N := 4) hB0 rfl (by decide) hg_bn hK, fun U hU hW => ⟨rfl, hU, hh_2.2.1, hG.step hW hU hh_2.1, hg_bn, hg_an, (hh_2.2.2.1.sub (L1 := [(bn, 0, 3, .int cn), (bn, 0, 0, .ref an)]) [3, 4] rfl), by first | omega | (refine ⟨?_, ?_, ?_, ?_, ?_, ?_⟩ <;> (first | omega | rfl | assumption | decide | exact Or.inl rfl | exact Or.inr rfl | (simp only; omega)))⟩⟩ rfl rfl hl.1 rfl (lv_room (Nat.le_of_ble_eq_true rfl)) dX14_headerByte_130 ⟨by rw [hRc]; omega, by rw [hRs]; omega⟩) hh_2.1 (fun q _ h => h) (fun q h => h) (fun r_132 u_131 t_131 H_131 locs_131 ht_131 hvm_131 hr_132 hb_131 hz_131 hk_131 hS_131 => ?_)
          obtain ⟨qc_131, qa_131, m_qa_131, G_131⟩ := u_131
          rw [ht_131] at hb_131
          simp only at hb_131
          obtain ⟨⟨hb_1311, hb_1312, hb_1313, hb_1314, hb_1315, hb_1316⟩, hgq_131_0, hN_131, hbO_131⟩ := hb_131
          have hh_131 : jSt (dC, dI) B base G0 G_131 EX14_headerByte s.heap (0 + (m_qa_131 - n_an)) (0 + (2 * (m_qa_131 - n_an))) [(bn, 0, 3, .int qc_131), (bn, 0, 0, .ref qa_131), (r0, 16, 12, .int z_1), (r0, 16, 13, .ref bn), (r0, 16, 14, .ref bv), (r0, 16, 11, .int pm), (r0, 16, 15, .int pl), (r0, 16, 16, .int pb)] [] [] H_131 locs_131 := (hh_2.callG hb_1311 hb_1312 hb_1313 hb_1314 hb_1315 hS_131 rfl (L1 := [(r0, 16, 12, .int z_1), (r0, 16, 13, .ref bn), (r0, 16, 14, .ref bv), (r0, 16, 11, .int pm), (r0, 16, 15, .int pl), (r0, 16, 16, .int pb)]) [0, 1, 2, 7, 8, 9] rfl rfl (M1 := []) [] rfl rfl (I1 := []) [] rfl rfl).more hb_1316
          have hNn_131 : (jNk [0, 1, 2, 3, 4, 5, 6, 7, 8, 9, 10, 11, 12, 13, 14, 15, 16]) G0 G_131 := (jNk.rf).tr hN_131
          have hg_133 := hb_1312 _ _ hg_r0
          have hg_134 := hb_1312 _ _ hg_bn
          have hg_135 := hb_1312 _ _ hg_bv
          have hh_136 := hh_131.more (P1 := [(bv, 0, 3, .int cv), (bv, 0, 0, .ref av)]) (jP.cons hg_135 (hbO_131 _ _ _ _ (by first | assumption | exact Ne.symm (by assumption) | exact jnek hg_bv hg_bn (by decide)) hg_bv (hh_2.at 5 rfl)) (jP.cons hg_135 (hbO_131 _ _ _ _ (by first | assumption | exact Ne.symm (by assumption) | exact jnek hg_bv hg_bn (by decide)) hg_bv (hh_2.at 6 rfl)) jP.nil))
          have hg_137 := hb_1312 _ _ hg_av
          obtain ⟨hr_132, hr_132p⟩ := hr_132
          try simp only at hr_132p
          obtain ⟨hr_132p_0, hr_132p_1, hr_132p_2, hr_132p_3, hr_132p_4⟩ := hr_132p
          obtain ⟨ret_138, rfl, hg_ret_138⟩ := hr_132
          have hg_139 := hb_1312 _ _ hg_ret_138
          refine lv_pop hx hb dX14_headerByte_133 rfl ?_
          refine lv_iload_n hx hb dX14_headerByte_134 rfl (lv_at hl 1 rfl) ?_
          have hsz_140 := hh_136.2.2.2.2.2.1
          have htt_140 := hh_136.2.2.2.2.2.2.1
          refine W.room (fun hrc_140 hrs_140 => ?_)
          refine va_calli (A0 := jA base) (H0 := s.heap) (va_runS (As := [.int a1]) (rest := []) ⟨hx, hb, hml, hown, hts⟩ (uX14_isLetter l dC dI ca base B hB hAp G_131 H_131 a1) (va_cwS 1 hts (jgS (jWr_48 _ (List.mem_of_getElem? (i := 7) rfl)) (jWr_48 _ (List.mem_of_getElem? (i := 8) rfl)) (jWr_1 _ (List.mem_of_getElem? (i := 5) rfl)) (jWr_48 _ (List.mem_of_getElem? (i := 9) rfl))) rfl rfl rfl (by decide +kernel) ⟨by rw [← hR]; exact Nat.le_of_ble_eq_true rfl, by rw [← hR]; exact Nat.le_of_ble_eq_true rfl⟩) ⟨fun a U g mk q => by obtain ⟨q0, q1, q2, qK, q10, q11⟩ := q; exact ⟨q0, q1, q2, jG.calling g mk a qK, q10, q11⟩, fun U hU hW => ⟨rfl, hU, hh_136.2.1, hG.step hW hU hh_136.1, jP.nil, trivial⟩⟩ rfl rfl hl.1 rfl (lv_room (Nat.le_of_ble_eq_true rfl)) dX14_headerByte_135 ⟨by rw [hRc]; show _ + 0 ≤ _; omega, by rw [hRs]; show _ + 0 ≤ _; omega⟩) hh_136.1 (fun q _ h => h) (fun q h => h) (fun r_141 u_140 t_140 H_140 locs_140 ht_140 hvm_140 hr_141 hb_140 hz_140 hk_140 hS_140 => ?_)
          rw [ht_140] at hb_140
          obtain ⟨hb_1401, hb_1402, hb_1403, hb_1404, hb_1405⟩ := hb_140
          have hh_140 : jSt (dC, dI) B base G0 G_131 EX14_headerByte s.heap (0 + (m_qa_131 - n_an)) (0 + (2 * (m_qa_131 - n_an))) [(bv, 0, 3, .int cv), (bv, 0, 0, .ref av), (bn, 0, 3, .int qc_131), (bn, 0, 0, .ref qa_131), (r0, 16, 12, .int z_1), (r0, 16, 13, .ref bn), (r0, 16, 14, .ref bv), (r0, 16, 11, .int pm), (r0, 16, 15, .int pl), (r0, 16, 16, .int pb)] [] [] H_140 locs_140 := ((hh_136.call hb_1401 hb_1402 hb_1403 hb_1404 hS_140 rfl (L1 := [(bv, 0, 3, .int cv), (bv, 0, 0, .ref av), (bn, 0, 3, .int qc_131), (bn, 0, 0, .ref qa_131), (r0, 16, 12, .int z_1), (r0, 16, 13, .ref bn), (r0, 16, 14, .ref bv), (r0, 16, 11, .int pm), (r0, 16, 15, .int pl), (r0, 16, 16, .int pb)]) [0, 1, 2, 3, 4, 5, 6, 7, 8, 9] rfl rfl (M1 := []) [] rfl rfl (I1 := []) [] rfl rfl).more hb_1405)
          clear hh_136 ht_140 hvm_140 hz_140 hk_140 hS_140 hb_1401 hb_1402 hb_1403 hb_1404 hb_1405
          obtain ⟨hr_141b, hr_141p⟩ := hr_141
          have hr_141' := jb_01 hr_141b
          refine lv_if_ne (tgt := 147) hx hb dX14_headerByte_138 (by decide) (fun c_142 => ?_) (fun c_142 => ?_)
          · skip
            have c_142' : r_141.toInt ≠ 0 := jb_ne (rfl) ((by decide)) c_142
            refine lv_iconst (v := 1) hx hb dX14_headerByte_147 (by decide) ?_
            refine lv_goto (tgt := 152) hx hb dX14_headerByte_148 (by decide) ?_
            have hsz_143 := hh_140.2.2.2.2.2.1
            have htt_143 := hh_140.2.2.2.2.2.2.1
            refine W.room (fun hrc_143 hrs_143 => ?_)
            refine W.widen (k := LC - s.heap.size) (n := LS - jTot s.heap) (by omega) (by omega) ?_
            rw [hQ]
            exact W.zret (v := 1) hx hb hr (jb_nz (Or.inr rfl)) (fun t ht hW => ⟨⟨1, (z_1, pm, pl, pb, qc_131, cv, qa_131, m_qa_131, av, n_av, G_131), rfl, ⟨(Or.inr rfl), by (try dsimp only); exact ⟨(by first | omega | rfl | assumption | fail), (by first | omega | rfl | assumption | fail), (by first | omega | rfl | assumption | fail), (by first | omega | rfl | assumption | fail), (by first | omega | rfl | assumption | fail), (by first | omega | rfl | assumption | fail), (by first | omega | rfl | assumption | fail), (by first | omega | rfl | assumption | fail), (by first | omega | rfl | assumption | fail), (by first | omega | rfl | assumption | fail), (by first | omega | rfl | assumption | fail), (by first | omega | rfl | assumption | fail), (by first | omega | rfl | assumption | fail), (by first | omega | rfl | assumption | fail)⟩⟩, ⟨hh_140.ra (by first | (simp only; omega) | omega) (by first | (simp only; omega) | omega) (M1 := [(r0, 16, 12, .int z_1), (r0, 16, 11, .int pm), (r0, 16, 15, .int pl), (r0, 16, 16, .int pb), (bn, 0, 3, .int qc_131), (bv, 0, 3, .int cv), (bn, 0, 0, .ref qa_131), (bv, 0, 0, .ref av)]) [4, 7, 8, 9, 2, 0, 3, 1] rfl ht, hgq_131_0, hg_137, hNn_131⟩⟩, by rw [ht]; try exact hh_140.1.1, fun q h9 hq => by rw [ht]; try exact hh_140.1.2.1 q h9 hq⟩) hh_140.1.2.2 dX14_headerByte_152
          · skip
            have c_142' : r_141.toInt = 0 := jb_ne_n (rfl) ((by decide)) c_142
            refine lv_iload_n hx hb dX14_headerByte_141 rfl (lv_at hl 1 rfl) ?_
            refine lv_bipush (v := 45) hx hb dX14_headerByte_142 (by decide) ?_
            refine lv_icmp_ne (tgt := 151) hx hb dX14_headerByte_144 (by decide) (fun c_144 => ?_) (fun c_144 => ?_)
            · skip
              have c_144' : a1.toInt ≠ 45 := jb_ne (rfl) ((by decide)) c_144
              refine lv_iconst (v := 0) hx hb dX14_headerByte_151 (by decide) ?_
              have hsz_145 := hh_140.2.2.2.2.2.1
              have htt_145 := hh_140.2.2.2.2.2.2.1
              refine W.room (fun hrc_145 hrs_145 => ?_)
              refine W.widen (k := LC - s.heap.size) (n := LS - jTot s.heap) (by omega) (by omega) ?_
              rw [hQ]
              exact W.zret (v := 0) hx hb hr (jb_nz (Or.inl rfl)) (fun t ht hW => ⟨⟨0, (z_1, pm, pl, pb, qc_131, cv, qa_131, m_qa_131, av, n_av, G_131), rfl, ⟨(Or.inl rfl), by (try dsimp only); exact ⟨(by first | omega | rfl | assumption | fail), (by first | omega | rfl | assumption | fail), (by first | omega | rfl | assumption | fail), (by first | omega | rfl | assumption | fail), (by first | omega | rfl | assumption | fail), (by first | omega | rfl | assumption | fail), (by first | omega | rfl | assumption | fail), (by first | omega | rfl | assumption | fail), (by first | omega | rfl | assumption | fail), (by first | omega | rfl | assumption | fail), (by first | omega | rfl | assumption | fail), (by first | omega | rfl | assumption | fail), (by first | omega | rfl | assumption | fail), (by first | omega | rfl | assumption | fail)⟩⟩, ⟨hh_140.ra (by first | (simp only; omega) | omega) (by first | (simp only; omega) | omega) (M1 := [(r0, 16, 12, .int z_1), (r0, 16, 11, .int pm), (r0, 16, 15, .int pl), (r0, 16, 16, .int pb), (bn, 0, 3, .int qc_131), (bv, 0, 3, .int cv), (bn, 0, 0, .ref qa_131), (bv, 0, 0, .ref av)]) [4, 7, 8, 9, 2, 0, 3, 1] rfl ht, hgq_131_0, hg_137, hNn_131⟩⟩, by rw [ht]; try exact hh_140.1.1, fun q h9 hq => by rw [ht]; try exact hh_140.1.2.1 q h9 hq⟩) hh_140.1.2.2 dX14_headerByte_152
            · skip
              have c_144' : a1.toInt = 45 := jb_ne_n (rfl) ((by decide)) c_144
              refine lv_iconst (v := 1) hx hb dX14_headerByte_147 (by decide) ?_
              refine lv_goto (tgt := 152) hx hb dX14_headerByte_148 (by decide) ?_
              have hsz_146 := hh_140.2.2.2.2.2.1
              have htt_146 := hh_140.2.2.2.2.2.2.1
              refine W.room (fun hrc_146 hrs_146 => ?_)
              refine W.widen (k := LC - s.heap.size) (n := LS - jTot s.heap) (by omega) (by omega) ?_
              rw [hQ]
              exact W.zret (v := 1) hx hb hr (jb_nz (Or.inr rfl)) (fun t ht hW => ⟨⟨1, (z_1, pm, pl, pb, qc_131, cv, qa_131, m_qa_131, av, n_av, G_131), rfl, ⟨(Or.inr rfl), by (try dsimp only); exact ⟨(by first | omega | rfl | assumption | fail), (by first | omega | rfl | assumption | fail), (by first | omega | rfl | assumption | fail), (by first | omega | rfl | assumption | fail), (by first | omega | rfl | assumption | fail), (by first | omega | rfl | assumption | fail), (by first | omega | rfl | assumption | fail), (by first | omega | rfl | assumption | fail), (by first | omega | rfl | assumption | fail), (by first | omega | rfl | assumption | fail), (by first | omega | rfl | assumption | fail), (by first | omega | rfl | assumption | fail), (by first | omega | rfl | assumption | fail), (by first | omega | rfl | assumption | fail)⟩⟩, ⟨hh_140.ra (by first | (simp only; omega) | omega) (by first | (simp only; omega) | omega) (M1 := [(r0, 16, 12, .int z_1), (r0, 16, 11, .int pm), (r0, 16, 15, .int pl), (r0, 16, 16, .int pb), (bn, 0, 3, .int qc_131), (bv, 0, 3, .int cv), (bn, 0, 0, .ref qa_131), (bv, 0, 0, .ref av)]) [4, 7, 8, 9, 2, 0, 3, 1] rfl ht, hgq_131_0, hg_137, hNn_131⟩⟩, by rw [ht]; try exact hh_140.1.1, fun q h9 hq => by rw [ht]; try exact hh_140.1.2.1 q h9 hq⟩) hh_140.1.2.2 dX14_headerByte_152
        · skip
          have c_129' : a1.toInt = 58 := jb_ne_n (rfl) ((by decide)) c_129
          refine lv_aload_n hx hb dX14_headerByte_117 rfl (lv_at hl 0 rfl) ?_
          refine lv_iconst (v := 2) hx hb dX14_headerByte_118 (by decide) ?_
          refine j7_put hx hb hown hK hh_2 hB hAp hB16 (C := RX14) (T := TX14) (N := 74) rfl (by decide) hg_r0 (i := 11) (by decide) hly_16_11 rfl hlk_231 rfl (ty := .int) (v := .int 2) (by decide +kernel) rfl rfl (⟨_, rfl⟩) rfl (L1 := [(r0, 16, 12, .int z_1), (r0, 16, 13, .ref bn), (r0, 16, 14, .ref bv), (bn, 0, 3, .int cn), (bn, 0, 0, .ref an), (bv, 0, 3, .int cv), (bv, 0, 0, .ref av), (r0, 16, 15, .int pl), (r0, 16, 16, .int pb)]) [0, 1, 2, 3, 4, 5, 6, 8, 9] rfl rfl rfl dX14_headerByte_119 (fun H_147 locs_147 hh_147 => ?_)
          clear hh_2
          refine lv_iconst (v := 1) hx hb dX14_headerByte_122 (by decide) ?_
          have hsz_148 := hh_147.2.2.2.2.2.1
          have htt_148 := hh_147.2.2.2.2.2.2.1
          refine W.room (fun hrc_148 hrs_148 => ?_)
          refine W.widen (k := LC - s.heap.size) (n := LS - jTot s.heap) (by omega) (by omega) ?_
          rw [hQ]
          exact W.zret (v := 1) hx hb hr (jb_nz (Or.inr rfl)) (fun t ht hW => ⟨⟨1, (z_1, 2, pl, pb, cn, cv, an, n_an, av, n_av, G0), rfl, ⟨(Or.inr rfl), by (try dsimp only); exact ⟨(by first | omega | rfl | assumption | fail), (by first | omega | rfl | assumption | fail), (by first | omega | rfl | assumption | fail), (by first | omega | rfl | assumption | fail), (by first | omega | rfl | assumption | fail), (by first | omega | rfl | assumption | fail), (by first | omega | rfl | assumption | fail), (by first | omega | rfl | assumption | fail), (by first | omega | rfl | assumption | fail), (by first | omega | rfl | assumption | fail), (by first | omega | rfl | assumption | fail), (by first | omega | rfl | assumption | fail), (by first | omega | rfl | assumption | fail), (by first | omega | rfl | assumption | fail)⟩⟩, ⟨hh_147.ra (by first | (simp only; omega) | omega) (by first | (simp only; omega) | omega) (M1 := [(r0, 16, 12, .int z_1), (r0, 16, 11, .int 2), (r0, 16, 15, .int pl), (r0, 16, 16, .int pb), (bn, 0, 3, .int cn), (bv, 0, 3, .int cv), (bn, 0, 0, .ref an), (bv, 0, 0, .ref av)]) [1, 0, 8, 9, 4, 6, 5, 7] rfl ht, hg_an, hg_av, jNk.rf⟩⟩, by rw [ht]; try exact hh_147.1.1, fun q h9 hq => by rw [ht]; try exact hh_147.1.2.1 q h9 hq⟩) hh_147.1.2.2 dX14_headerByte_123
    · skip
      have c_4' : pm.toInt = 0 := jb_ne_n (rfl) ((by decide)) c_4
      refine lv_aload_n hx hb dX14_headerByte_29 rfl (lv_at hl 0 rfl) ?_
      refine j7_read hx hb hown hK (C := RX14) (T := TX14) (N := 74) rfl hly_16_13 hlk_26 (hh_2.at 1 rfl) dX14_headerByte_30 ?_
      refine lv_iconst (v := 0) hx hb dX14_headerByte_33 (by decide) ?_
      have hsz_149 := hh_2.2.2.2.2.2.1
      have htt_149 := hh_2.2.2.2.2.2.2.1
      refine W.room (fun hrc_149 hrs_149 => ?_)
      refine va_callv (A0 := jA base) (H0 := s.heap) (va_runV (As := [.int 0]) (rest := []) ⟨hx, hb, hml, hown, hts⟩ (uJ4_setLength_d00df l dC dI ca base B hB hAp hB0 hB196 G0 H_2 bn 0 cn an n_an) (cwV 1 hts (jgV (jWr_45 _ (List.mem_of_getElem? (i := 0) rfl)) (jWr_45 _ (List.mem_of_getElem? (i := 1) rfl)) (jWr_45 _ (List.mem_of_getElem? (i := 2) rfl)) (jWr_11 _ (List.mem_of_getElem? (i := 0) rfl)) (jWr_45 _ (List.mem_of_getElem? (i := 3) rfl))) rfl rfl rfl (by decide +kernel) ⟨by rw [← hR]; exact Nat.le_of_ble_eq_true rfl, by rw [← hR]; exact Nat.le_of_ble_eq_true rfl⟩) ⟨fun a U g mk q => by obtain ⟨q0, q1, q2, qK, q10, q11, q12, q13⟩ := q; exact ⟨q0, q1, q2, jG.calling g mk a qK, q10, q11, q12, q13⟩, hh_2.recv (C := RJ4) (T := TJ4) (N := 4) hB0 rfl (by decide) hg_bn hK, fun U hU hW => ⟨rfl, hU, hh_2.2.1, hG.step hW hU hh_2.1, hg_bn, hg_an, (hh_2.2.2.1.sub (L1 := [(bn, 0, 3, .int cn), (bn, 0, 0, .ref an)]) [3, 4] rfl), by first | omega | (refine ⟨?_, ?_, ?_⟩ <;> (first | omega | rfl | assumption | decide | exact Or.inl rfl | exact Or.inr rfl | (simp only; omega)))⟩⟩ rfl rfl hl.1 rfl (lv_room (Nat.le_of_ble_eq_true rfl)) dX14_headerByte_34 ⟨by rw [hRc]; show _ + 0 ≤ _; omega, by rw [hRs]; show _ + 0 ≤ _; omega⟩) hh_2.1 (fun q _ h => h) (fun q h => h) (fun u_149 t_149 H_149 locs_149 ht_149 hvm_149 hr_150 hb_149 hz_149 hk_149 hS_149 => ?_)
      obtain ⟨qc_149, rfl⟩ : ∃ z, z = u_149 := ⟨_, rfl⟩
      rw [ht_149] at hb_149
      obtain ⟨hb_149, hbO_149⟩ := hb_149
      obtain ⟨hb_1491, hb_1492, hb_1493, hb_1494, hb_1495⟩ := hb_149
      have hh_149 : jSt (dC, dI) B base G0 G0 EX14_headerByte s.heap 0 0 [(bn, 0, 3, .int qc_149), (r0, 16, 12, .int z_1), (r0, 16, 13, .ref bn), (r0, 16, 14, .ref bv), (bn, 0, 0, .ref an), (bv, 0, 0, .ref av), (r0, 16, 11, .int pm), (r0, 16, 15, .int pl), (r0, 16, 16, .int pb)] [] [] H_149 locs_149 := ((hh_2.call hb_1491 hb_1492 hb_1493 hb_1494 hS_149 rfl (L1 := [(r0, 16, 12, .int z_1), (r0, 16, 13, .ref bn), (r0, 16, 14, .ref bv), (bn, 0, 0, .ref an), (bv, 0, 0, .ref av), (r0, 16, 11, .int pm), (r0, 16, 15, .int pl), (r0, 16, 16, .int pb)]) [0, 1, 2, 4, 6, 7, 8, 9] rfl rfl (M1 := []) [] rfl rfl (I1 := []) [] rfl rfl).more hb_1495)
      have hh_151 := hh_149.more (P1 := [(bv, 0, 3, .int cv)]) (jP.cons hg_bv (hbO_149 _ _ _ _ (by first | assumption | exact Ne.symm (by assumption) | exact jnek hg_bv hg_bn (by decide)) hg_bv (hh_2.at 5 rfl)) jP.nil)
      clear hh_2 ht_149 hvm_149 hz_149 hk_149 hS_149 hb_1491 hb_1492 hb_1493 hb_1494 hb_1495
      refine lv_aload_n hx hb dX14_headerByte_37 rfl (lv_at hl 0 rfl) ?_
      refine j7_read hx hb hown hK (C := RX14) (T := TX14) (N := 74) rfl hly_16_14 hlk_30 (hh_151.at 4 rfl) dX14_headerByte_38 ?_
      refine lv_iconst (v := 0) hx hb dX14_headerByte_41 (by decide) ?_
      have hsz_152 := hh_151.2.2.2.2.2.1
      have htt_152 := hh_151.2.2.2.2.2.2.1
      refine W.room (fun hrc_152 hrs_152 => ?_)
      refine va_callv (A0 := jA base) (H0 := s.heap) (va_runV (As := [.int 0]) (rest := []) ⟨hx, hb, hml, hown, hts⟩ (uJ4_setLength_d00df l dC dI ca base B hB hAp hB0 hB196 G0 H_149 bv 0 cv av n_av) (cwV 1 hts (jgV (jWr_45 _ (List.mem_of_getElem? (i := 0) rfl)) (jWr_45 _ (List.mem_of_getElem? (i := 1) rfl)) (jWr_45 _ (List.mem_of_getElem? (i := 2) rfl)) (jWr_11 _ (List.mem_of_getElem? (i := 0) rfl)) (jWr_45 _ (List.mem_of_getElem? (i := 3) rfl))) rfl rfl rfl (by decide +kernel) ⟨by rw [← hR]; exact Nat.le_of_ble_eq_true rfl, by rw [← hR]; exact Nat.le_of_ble_eq_true rfl⟩) ⟨fun a U g mk q => by obtain ⟨q0, q1, q2, qK, q10, q11, q12, q13⟩ := q; exact ⟨q0, q1, q2, jG.calling g mk a qK, q10, q11, q12, q13⟩, hh_151.recv (C := RJ4) (T := TJ4) (N := 4) hB0 rfl (by decide) hg_bv hK, fun U hU hW => ⟨rfl, hU, hh_151.2.1, hG.step hW hU hh_151.1, hg_bv, hg_av, (hh_151.2.2.1.sub (L1 := [(bv, 0, 3, .int cv), (bv, 0, 0, .ref av)]) [0, 6] rfl), by first | omega | (refine ⟨?_, ?_, ?_⟩ <;> (first | omega | rfl | assumption | decide | exact Or.inl rfl | exact Or.inr rfl | (simp only; omega)))⟩⟩ rfl rfl hl.1 rfl (lv_room (Nat.le_of_ble_eq_true rfl)) dX14_headerByte_42 ⟨by rw [hRc]; show _ + 0 ≤ _; omega, by rw [hRs]; show _ + 0 ≤ _; omega⟩) hh_151.1 (fun q _ h => h) (fun q h => h) (fun u_152 t_152 H_152 locs_152 ht_152 hvm_152 hr_153 hb_152 hz_152 hk_152 hS_152 => ?_)
      obtain ⟨qc_152, rfl⟩ : ∃ z, z = u_152 := ⟨_, rfl⟩
      rw [ht_152] at hb_152
      obtain ⟨hb_152, hbO_152⟩ := hb_152
      obtain ⟨hb_1521, hb_1522, hb_1523, hb_1524, hb_1525⟩ := hb_152
      have hh_152 : jSt (dC, dI) B base G0 G0 EX14_headerByte s.heap 0 0 [(bv, 0, 3, .int qc_152), (r0, 16, 12, .int z_1), (r0, 16, 13, .ref bn), (r0, 16, 14, .ref bv), (bn, 0, 0, .ref an), (bv, 0, 0, .ref av), (r0, 16, 11, .int pm), (r0, 16, 15, .int pl), (r0, 16, 16, .int pb)] [] [] H_152 locs_152 := ((hh_151.call hb_1521 hb_1522 hb_1523 hb_1524 hS_152 rfl (L1 := [(r0, 16, 12, .int z_1), (r0, 16, 13, .ref bn), (r0, 16, 14, .ref bv), (bn, 0, 0, .ref an), (bv, 0, 0, .ref av), (r0, 16, 11, .int pm), (r0, 16, 15, .int pl), (r0, 16, 16, .int pb)]) [2, 3, 4, 5, 6, 7, 8, 9] rfl rfl (M1 := []) [] rfl rfl (I1 := []) [] rfl rfl).more hb_1525)
      have hh_154 := hh_152.more (P1 := [(bn, 0, 3, .int qc_149)]) (jP.cons hg_bn (hbO_152 _ _ _ _ (by first | assumption | exact Ne.symm (by assumption) | exact jnek hg_bn hg_bv (by decide)) hg_bn (hh_151.at 1 rfl)) jP.nil)
      clear hh_151 ht_152 hvm_152 hz_152 hk_152 hS_152 hb_1521 hb_1522 hb_1523 hb_1524 hb_1525
      refine lv_iload_n hx hb dX14_headerByte_45 rfl (lv_at hl 1 rfl) ?_
      refine lv_bipush (v := 13) hx hb dX14_headerByte_46 (by decide) ?_
      refine lv_icmp_ne (tgt := 69) hx hb dX14_headerByte_48 (by decide) (fun c_155 => ?_) (fun c_155 => ?_)
      · skip
        have c_155' : a1.toInt ≠ 13 := jb_ne (rfl) ((by decide)) c_155
        refine lv_aload_n hx hb dX14_headerByte_69 rfl (lv_at hl 0 rfl) ?_
        refine lv_iconst (v := 1) hx hb dX14_headerByte_70 (by decide) ?_
        refine j7_put hx hb hown hK hh_154 hB hAp hB16 (C := RX14) (T := TX14) (N := 74) rfl (by decide) hg_r0 (i := 11) (by decide) hly_16_11 rfl hlk_231 rfl (ty := .int) (v := .int 1) (by decide +kernel) rfl rfl (⟨_, rfl⟩) rfl (L1 := [(bn, 0, 3, .int qc_149), (bv, 0, 3, .int qc_152), (r0, 16, 12, .int z_1), (r0, 16, 13, .ref bn), (r0, 16, 14, .ref bv), (bn, 0, 0, .ref an), (bv, 0, 0, .ref av), (r0, 16, 15, .int pl), (r0, 16, 16, .int pb)]) [0, 1, 2, 3, 4, 5, 6, 8, 9] rfl rfl rfl dX14_headerByte_71 (fun H_156 locs_156 hh_156 => ?_)
        clear hh_154
        refine lv_aload_n hx hb dX14_headerByte_74 rfl (lv_at hl 0 rfl) ?_
        refine j7_read hx hb hown hK (C := RX14) (T := TX14) (N := 74) rfl hly_16_13 hlk_26 (hh_156.at 4 rfl) dX14_headerByte_75 ?_
        refine lv_iload_n hx hb dX14_headerByte_78 rfl (lv_at hl 1 rfl) ?_
        refine lv_i2c hx hb dX14_headerByte_79 rfl ?_
        refine lv_topi (fun z_157 ez_157 => ?_)
        have hic := jb_i2c (by assumption) hp16 hp17
        have hsz_158 := hh_156.2.2.2.2.2.1
        have htt_158 := hh_156.2.2.2.2.2.2.1
        refine W.room (fun hrc_158 hrs_158 => ?_)
        refine j_callx (A0 := jA base) (H0 := s.heap) (va_runV (As := [.int z_157]) (rest := []) ⟨hx, hb, hml, hown, hts⟩ (uJ4_append_cf468M l dC dI ca base B hB hAp hB0 hB196 G0 H_156 bn z_157 qc_149 an n_an LC LS) (cwV 1 hts (jgV (jWr_46 _ (List.mem_of_getElem? (i := 18) rfl)) (jWr_46 _ (List.mem_of_getElem? (i := 19) rfl)) (jWr_46 _ (List.mem_of_getElem? (i := 20) rfl)) (jWr_11 _ (List.mem_of_getElem? (i := 0) rfl)) (jWr_46 _ (List.mem_of_getElem? (i := 21) rfl))) rfl rfl rfl (by decide +kernel) ⟨by rw [← hR]; exact Nat.le_of_ble_eq_true rfl, by rw [← hR]; exact Nat.le_of_ble_eq_true rfl⟩) ⟨fun a U g mk q => by obtain ⟨q0, q1, q2, qK, q10, q11, q12, q13⟩ := q; exact ⟨q0, q1, q2, jG.calling g mk a qK, q10, q11, q12, q13⟩, hh_156.recv (C := RJ4) (T := TJ4) (N := 4) hB0 rfl (by decide) hg_bn hK, fun U hU hW => ⟨rfl, hU, hh_156.2.1, hG.step hW hU hh_156.1, hg_bn, hg_an, (hh_156.2.2.1.sub (L1 := [(bn, 0, 3, .int qc_149), (bn, 0, 0, .ref an)]) [1, 6] rfl), by first | omega | (refine ⟨?_, ?_, ?_, ?_, ?_, ?_⟩ <;> (first | omega | rfl | assumption | decide | exact Or.inl rfl | exact Or.inr rfl | (simp only; omega)))⟩⟩ rfl rfl hl.1 rfl (lv_room (Nat.le_of_ble_eq_true rfl)) dX14_headerByte_80 ⟨by rw [hRc]; omega, by rw [hRs]; omega⟩) hh_156.1 (fun q _ h => h) (fun q h => h) (fun r_159 u_158 t_158 H_158 locs_158 ht_158 hvm_158 hr_159 hb_158 hz_158 hk_158 hS_158 => ?_)
        obtain ⟨qc_158, qa_158, m_qa_158, G_158⟩ := u_158
        rw [ht_158] at hb_158
        simp only at hb_158
        obtain ⟨⟨hb_1581, hb_1582, hb_1583, hb_1584, hb_1585, hb_1586⟩, hgq_158_0, hN_158, hbO_158⟩ := hb_158
        have hh_158 : jSt (dC, dI) B base G0 G_158 EX14_headerByte s.heap (0 + (m_qa_158 - n_an)) (0 + (2 * (m_qa_158 - n_an))) [(bn, 0, 3, .int qc_158), (bn, 0, 0, .ref qa_158), (r0, 16, 11, .int 1), (r0, 16, 12, .int z_1), (r0, 16, 13, .ref bn), (r0, 16, 14, .ref bv), (r0, 16, 15, .int pl), (r0, 16, 16, .int pb)] [] [] H_158 locs_158 := (hh_156.callG hb_1581 hb_1582 hb_1583 hb_1584 hb_1585 hS_158 rfl (L1 := [(r0, 16, 11, .int 1), (r0, 16, 12, .int z_1), (r0, 16, 13, .ref bn), (r0, 16, 14, .ref bv), (r0, 16, 15, .int pl), (r0, 16, 16, .int pb)]) [0, 3, 4, 5, 8, 9] rfl rfl (M1 := []) [] rfl rfl (I1 := []) [] rfl rfl).more hb_1586
        have hNn_158 : (jNk [0, 1, 2, 3, 4, 5, 6, 7, 8, 9, 10, 11, 12, 13, 14, 15, 16]) G0 G_158 := (jNk.rf).tr hN_158
        have hg_160 := hb_1582 _ _ hg_r0
        have hg_161 := hb_1582 _ _ hg_bn
        have hg_162 := hb_1582 _ _ hg_bv
        have hh_163 := hh_158.more (P1 := [(bv, 0, 3, .int qc_152), (bv, 0, 0, .ref av)]) (jP.cons hg_162 (hbO_158 _ _ _ _ (by first | assumption | exact Ne.symm (by assumption) | exact jnek hg_bv hg_bn (by decide)) hg_bv (hh_156.at 2 rfl)) (jP.cons hg_162 (hbO_158 _ _ _ _ (by first | assumption | exact Ne.symm (by assumption) | exact jnek hg_bv hg_bn (by decide)) hg_bv (hh_156.at 7 rfl)) jP.nil))
        have hg_164 := hb_1582 _ _ hg_av
        obtain ⟨hr_159, hr_159p⟩ := hr_159
        try simp only at hr_159p
        obtain ⟨hr_159p_0, hr_159p_1, hr_159p_2, hr_159p_3, hr_159p_4⟩ := hr_159p
        obtain ⟨ret_165, rfl, hg_ret_165⟩ := hr_159
        have hg_166 := hb_1582 _ _ hg_ret_165
        refine lv_pop hx hb dX14_headerByte_83 rfl ?_
        refine lv_iload_n hx hb dX14_headerByte_84 rfl (lv_at hl 1 rfl) ?_
        have hsz_167 := hh_163.2.2.2.2.2.1
        have htt_167 := hh_163.2.2.2.2.2.2.1
        refine W.room (fun hrc_167 hrs_167 => ?_)
        refine va_calli (A0 := jA base) (H0 := s.heap) (va_runS (As := [.int a1]) (rest := []) ⟨hx, hb, hml, hown, hts⟩ (uX14_isLetter l dC dI ca base B hB hAp G_158 H_158 a1) (va_cwS 1 hts (jgS (jWr_48 _ (List.mem_of_getElem? (i := 7) rfl)) (jWr_48 _ (List.mem_of_getElem? (i := 8) rfl)) (jWr_1 _ (List.mem_of_getElem? (i := 5) rfl)) (jWr_48 _ (List.mem_of_getElem? (i := 9) rfl))) rfl rfl rfl (by decide +kernel) ⟨by rw [← hR]; exact Nat.le_of_ble_eq_true rfl, by rw [← hR]; exact Nat.le_of_ble_eq_true rfl⟩) ⟨fun a U g mk q => by obtain ⟨q0, q1, q2, qK, q10, q11⟩ := q; exact ⟨q0, q1, q2, jG.calling g mk a qK, q10, q11⟩, fun U hU hW => ⟨rfl, hU, hh_163.2.1, hG.step hW hU hh_163.1, jP.nil, trivial⟩⟩ rfl rfl hl.1 rfl (lv_room (Nat.le_of_ble_eq_true rfl)) dX14_headerByte_85 ⟨by rw [hRc]; show _ + 0 ≤ _; omega, by rw [hRs]; show _ + 0 ≤ _; omega⟩) hh_163.1 (fun q _ h => h) (fun q h => h) (fun r_168 u_167 t_167 H_167 locs_167 ht_167 hvm_167 hr_168 hb_167 hz_167 hk_167 hS_167 => ?_)
        rw [ht_167] at hb_167
        obtain ⟨hb_1671, hb_1672, hb_1673, hb_1674, hb_1675⟩ := hb_167
        have hh_167 : jSt (dC, dI) B base G0 G_158 EX14_headerByte s.heap (0 + (m_qa_158 - n_an)) (0 + (2 * (m_qa_158 - n_an))) [(bv, 0, 3, .int qc_152), (bv, 0, 0, .ref av), (bn, 0, 3, .int qc_158), (bn, 0, 0, .ref qa_158), (r0, 16, 11, .int 1), (r0, 16, 12, .int z_1), (r0, 16, 13, .ref bn), (r0, 16, 14, .ref bv), (r0, 16, 15, .int pl), (r0, 16, 16, .int pb)] [] [] H_167 locs_167 := ((hh_163.call hb_1671 hb_1672 hb_1673 hb_1674 hS_167 rfl (L1 := [(bv, 0, 3, .int qc_152), (bv, 0, 0, .ref av), (bn, 0, 3, .int qc_158), (bn, 0, 0, .ref qa_158), (r0, 16, 11, .int 1), (r0, 16, 12, .int z_1), (r0, 16, 13, .ref bn), (r0, 16, 14, .ref bv), (r0, 16, 15, .int pl), (r0, 16, 16, .int pb)]) [0, 1, 2, 3, 4, 5, 6, 7, 8, 9] rfl rfl (M1 := []) [] rfl rfl (I1 := []) [] rfl rfl).more hb_1675)
        clear hh_163 ht_167 hvm_167 hz_167 hk_167 hS_167 hb_1671 hb_1672 hb_1673 hb_1674 hb_1675
        obtain ⟨hr_168b, hr_168p⟩ := hr_168
        have hr_168' := jb_01 hr_168b
        refine lv_if_ne (tgt := 97) hx hb dX14_headerByte_88 (by decide) (fun c_169 => ?_) (fun c_169 => ?_)
        · skip
          have c_169' : r_168.toInt ≠ 0 := jb_ne (rfl) ((by decide)) c_169
          refine lv_iconst (v := 1) hx hb dX14_headerByte_97 (by decide) ?_
          refine lv_goto (tgt := 102) hx hb dX14_headerByte_98 (by decide) ?_
          have hsz_170 := hh_167.2.2.2.2.2.1
          have htt_170 := hh_167.2.2.2.2.2.2.1
          refine W.room (fun hrc_170 hrs_170 => ?_)
          refine W.widen (k := LC - s.heap.size) (n := LS - jTot s.heap) (by omega) (by omega) ?_
          rw [hQ]
          exact W.zret (v := 1) hx hb hr (jb_nz (Or.inr rfl)) (fun t ht hW => ⟨⟨1, (z_1, 1, pl, pb, qc_158, qc_152, qa_158, m_qa_158, av, n_av, G_158), rfl, ⟨(Or.inr rfl), by (try dsimp only); exact ⟨(by first | omega | rfl | assumption | fail), (by first | omega | rfl | assumption | fail), (by first | omega | rfl | assumption | fail), (by first | omega | rfl | assumption | fail), (by first | omega | rfl | assumption | fail), (by first | omega | rfl | assumption | fail), (by first | omega | rfl | assumption | fail), (by first | omega | rfl | assumption | fail), (by first | omega | rfl | assumption | fail), (by first | omega | rfl | assumption | fail), (by first | omega | rfl | assumption | fail), (by first | omega | rfl | assumption | fail), (by first | omega | rfl | assumption | fail), (by first | omega | rfl | assumption | fail)⟩⟩, ⟨hh_167.ra (by first | (simp only; omega) | omega) (by first | (simp only; omega) | omega) (M1 := [(r0, 16, 12, .int z_1), (r0, 16, 11, .int 1), (r0, 16, 15, .int pl), (r0, 16, 16, .int pb), (bn, 0, 3, .int qc_158), (bv, 0, 3, .int qc_152), (bn, 0, 0, .ref qa_158), (bv, 0, 0, .ref av)]) [5, 4, 8, 9, 2, 0, 3, 1] rfl ht, hgq_158_0, hg_164, hNn_158⟩⟩, by rw [ht]; try exact hh_167.1.1, fun q h9 hq => by rw [ht]; try exact hh_167.1.2.1 q h9 hq⟩) hh_167.1.2.2 dX14_headerByte_102
        · skip
          have c_169' : r_168.toInt = 0 := jb_ne_n (rfl) ((by decide)) c_169
          refine lv_iload_n hx hb dX14_headerByte_91 rfl (lv_at hl 1 rfl) ?_
          refine lv_bipush (v := 45) hx hb dX14_headerByte_92 (by decide) ?_
          refine lv_icmp_ne (tgt := 101) hx hb dX14_headerByte_94 (by decide) (fun c_171 => ?_) (fun c_171 => ?_)
          · skip
            have c_171' : a1.toInt ≠ 45 := jb_ne (rfl) ((by decide)) c_171
            refine lv_iconst (v := 0) hx hb dX14_headerByte_101 (by decide) ?_
            have hsz_172 := hh_167.2.2.2.2.2.1
            have htt_172 := hh_167.2.2.2.2.2.2.1
            refine W.room (fun hrc_172 hrs_172 => ?_)
            refine W.widen (k := LC - s.heap.size) (n := LS - jTot s.heap) (by omega) (by omega) ?_
            rw [hQ]
            exact W.zret (v := 0) hx hb hr (jb_nz (Or.inl rfl)) (fun t ht hW => ⟨⟨0, (z_1, 1, pl, pb, qc_158, qc_152, qa_158, m_qa_158, av, n_av, G_158), rfl, ⟨(Or.inl rfl), by (try dsimp only); exact ⟨(by first | omega | rfl | assumption | fail), (by first | omega | rfl | assumption | fail), (by first | omega | rfl | assumption | fail), (by first | omega | rfl | assumption | fail), (by first | omega | rfl | assumption | fail), (by first | omega | rfl | assumption | fail), (by first | omega | rfl | assumption | fail), (by first | omega | rfl | assumption | fail), (by first | omega | rfl | assumption | fail), (by first | omega | rfl | assumption | fail), (by first | omega | rfl | assumption | fail), (by first | omega | rfl | assumption | fail), (by first | omega | rfl | assumption | fail), (by first | omega | rfl | assumption | fail)⟩⟩, ⟨hh_167.ra (by first | (simp only; omega) | omega) (by first | (simp only; omega) | omega) (M1 := [(r0, 16, 12, .int z_1), (r0, 16, 11, .int 1), (r0, 16, 15, .int pl), (r0, 16, 16, .int pb), (bn, 0, 3, .int qc_158), (bv, 0, 3, .int qc_152), (bn, 0, 0, .ref qa_158), (bv, 0, 0, .ref av)]) [5, 4, 8, 9, 2, 0, 3, 1] rfl ht, hgq_158_0, hg_164, hNn_158⟩⟩, by rw [ht]; try exact hh_167.1.1, fun q h9 hq => by rw [ht]; try exact hh_167.1.2.1 q h9 hq⟩) hh_167.1.2.2 dX14_headerByte_102
          · skip
            have c_171' : a1.toInt = 45 := jb_ne_n (rfl) ((by decide)) c_171
            refine lv_iconst (v := 1) hx hb dX14_headerByte_97 (by decide) ?_
            refine lv_goto (tgt := 102) hx hb dX14_headerByte_98 (by decide) ?_
            have hsz_173 := hh_167.2.2.2.2.2.1
            have htt_173 := hh_167.2.2.2.2.2.2.1
            refine W.room (fun hrc_173 hrs_173 => ?_)
            refine W.widen (k := LC - s.heap.size) (n := LS - jTot s.heap) (by omega) (by omega) ?_
            rw [hQ]
            exact W.zret (v := 1) hx hb hr (jb_nz (Or.inr rfl)) (fun t ht hW => ⟨⟨1, (z_1, 1, pl, pb, qc_158, qc_152, qa_158, m_qa_158, av, n_av, G_158), rfl, ⟨(Or.inr rfl), by (try dsimp only); exact ⟨(by first | omega | rfl | assumption | fail), (by first | omega | rfl | assumption | fail), (by first | omega | rfl | assumption | fail), (by first | omega | rfl | assumption | fail), (by first | omega | rfl | assumption | fail), (by first | omega | rfl | assumption | fail), (by first | omega | rfl | assumption | fail), (by first | omega | rfl | assumption | fail), (by first | omega | rfl | assumption | fail), (by first | omega | rfl | assumption | fail), (by first | omega | rfl | assumption | fail), (by first | omega | rfl | assumption | fail), (by first | omega | rfl | assumption | fail), (by first | omega | rfl | assumption | fail)⟩⟩, ⟨hh_167.ra (by first | (simp only; omega) | omega) (by first | (simp only; omega) | omega) (M1 := [(r0, 16, 12, .int z_1), (r0, 16, 11, .int 1), (r0, 16, 15, .int pl), (r0, 16, 16, .int pb), (bn, 0, 3, .int qc_158), (bv, 0, 3, .int qc_152), (bn, 0, 0, .ref qa_158), (bv, 0, 0, .ref av)]) [5, 4, 8, 9, 2, 0, 3, 1] rfl ht, hgq_158_0, hg_164, hNn_158⟩⟩, by rw [ht]; try exact hh_167.1.1, fun q h9 hq => by rw [ht]; try exact hh_167.1.2.1 q h9 hq⟩) hh_167.1.2.2 dX14_headerByte_102
      · skip
        have c_155' : a1.toInt = 13 := jb_ne_n (rfl) ((by decide)) c_155
        refine lv_aload_n hx hb dX14_headerByte_51 rfl (lv_at hl 0 rfl) ?_
        refine lv_iconst (v := 5) hx hb dX14_headerByte_52 (by decide) ?_
        refine j7_put hx hb hown hK hh_154 hB hAp hB16 (C := RX14) (T := TX14) (N := 74) rfl (by decide) hg_r0 (i := 11) (by decide) hly_16_11 rfl hlk_231 rfl (ty := .int) (v := .int 5) (by decide +kernel) rfl rfl (⟨_, rfl⟩) rfl (L1 := [(bn, 0, 3, .int qc_149), (bv, 0, 3, .int qc_152), (r0, 16, 12, .int z_1), (r0, 16, 13, .ref bn), (r0, 16, 14, .ref bv), (bn, 0, 0, .ref an), (bv, 0, 0, .ref av), (r0, 16, 15, .int pl), (r0, 16, 16, .int pb)]) [0, 1, 2, 3, 4, 5, 6, 8, 9] rfl rfl rfl dX14_headerByte_53 (fun H_174 locs_174 hh_174 => ?_)
        clear hh_154
        refine lv_aload_n hx hb dX14_headerByte_56 rfl (lv_at hl 0 rfl) ?_
        refine j7_read hx hb hown hK (C := RX14) (T := TX14) (N := 74) rfl hly_16_15 hlk_33 (hh_174.at 8 rfl) dX14_headerByte_57 ?_
        refine lv_if_lt (tgt := 67) hx hb dX14_headerByte_60 (by decide) (fun c_175 => ?_) (fun c_175 => ?_)
        · skip
          have c_175' : pl.toInt < 0 := jb_lt (rfl) ((by decide)) c_175
          refine lv_iconst (v := 0) hx hb dX14_headerByte_67 (by decide) ?_
          have hsz_176 := hh_174.2.2.2.2.2.1
          have htt_176 := hh_174.2.2.2.2.2.2.1
          refine W.room (fun hrc_176 hrs_176 => ?_)
          refine W.widen (k := LC - s.heap.size) (n := LS - jTot s.heap) (by omega) (by omega) ?_
          rw [hQ]
          exact W.zret (v := 0) hx hb hr (jb_nz (Or.inl rfl)) (fun t ht hW => ⟨⟨0, (z_1, 5, pl, pb, qc_149, qc_152, an, n_an, av, n_av, G0), rfl, ⟨(Or.inl rfl), by (try dsimp only); exact ⟨(by first | omega | rfl | assumption | fail), (by first | omega | rfl | assumption | fail), (by first | omega | rfl | assumption | fail), (by first | omega | rfl | assumption | fail), (by first | omega | rfl | assumption | fail), (by first | omega | rfl | assumption | fail), (by first | omega | rfl | assumption | fail), (by first | omega | rfl | assumption | fail), (by first | omega | rfl | assumption | fail), (by first | omega | rfl | assumption | fail), (by first | omega | rfl | assumption | fail), (by first | omega | rfl | assumption | fail), (by first | omega | rfl | assumption | fail), (by first | omega | rfl | assumption | fail)⟩⟩, ⟨hh_174.ra (by first | (simp only; omega) | omega) (by first | (simp only; omega) | omega) (M1 := [(r0, 16, 12, .int z_1), (r0, 16, 11, .int 5), (r0, 16, 15, .int pl), (r0, 16, 16, .int pb), (bn, 0, 3, .int qc_149), (bv, 0, 3, .int qc_152), (bn, 0, 0, .ref an), (bv, 0, 0, .ref av)]) [3, 0, 8, 9, 1, 2, 6, 7] rfl ht, hg_an, hg_av, jNk.rf⟩⟩, by rw [ht]; try exact hh_174.1.1, fun q h9 hq => by rw [ht]; try exact hh_174.1.2.1 q h9 hq⟩) hh_174.1.2.2 dX14_headerByte_68
        · skip
          have c_175' : pl.toInt ≥ 0 := jb_lt_n (rfl) ((by decide)) c_175
          refine lv_iconst (v := 1) hx hb dX14_headerByte_63 (by decide) ?_
          refine lv_goto (tgt := 68) hx hb dX14_headerByte_64 (by decide) ?_
          have hsz_177 := hh_174.2.2.2.2.2.1
          have htt_177 := hh_174.2.2.2.2.2.2.1
          refine W.room (fun hrc_177 hrs_177 => ?_)
          refine W.widen (k := LC - s.heap.size) (n := LS - jTot s.heap) (by omega) (by omega) ?_
          rw [hQ]
          exact W.zret (v := 1) hx hb hr (jb_nz (Or.inr rfl)) (fun t ht hW => ⟨⟨1, (z_1, 5, pl, pb, qc_149, qc_152, an, n_an, av, n_av, G0), rfl, ⟨(Or.inr rfl), by (try dsimp only); exact ⟨(by first | omega | rfl | assumption | fail), (by first | omega | rfl | assumption | fail), (by first | omega | rfl | assumption | fail), (by first | omega | rfl | assumption | fail), (by first | omega | rfl | assumption | fail), (by first | omega | rfl | assumption | fail), (by first | omega | rfl | assumption | fail), (by first | omega | rfl | assumption | fail), (by first | omega | rfl | assumption | fail), (by first | omega | rfl | assumption | fail), (by first | omega | rfl | assumption | fail), (by first | omega | rfl | assumption | fail), (by first | omega | rfl | assumption | fail), (by first | omega | rfl | assumption | fail)⟩⟩, ⟨hh_174.ra (by first | (simp only; omega) | omega) (by first | (simp only; omega) | omega) (M1 := [(r0, 16, 12, .int z_1), (r0, 16, 11, .int 5), (r0, 16, 15, .int pl), (r0, 16, 16, .int pb), (bn, 0, 3, .int qc_149), (bv, 0, 3, .int qc_152), (bn, 0, 0, .ref an), (bv, 0, 0, .ref av)]) [3, 0, 8, 9, 1, 2, 6, 7] rfl ht, hg_an, hg_av, jNk.rf⟩⟩, by rw [ht]; try exact hh_174.1.1, fun q h9 hq => by rw [ht]; try exact hh_174.1.2.1 q h9 hq⟩) hh_174.1.2.2 dX14_headerByte_68
  · skip
    have c_3' : z_1.toInt > 200 := jb_le_n (rfl) ((by decide)) c_3
    refine lv_iconst (v := 0) hx hb dX14_headerByte_20 (by decide) ?_
    have hsz_178 := hh_2.2.2.2.2.2.1
    have htt_178 := hh_2.2.2.2.2.2.2.1
    refine W.room (fun hrc_178 hrs_178 => ?_)
    refine W.widen (k := LC - s.heap.size) (n := LS - jTot s.heap) (by omega) (by omega) ?_
    rw [hQ]
    exact W.zret (v := 0) hx hb hr (jb_nz (Or.inl rfl)) (fun t ht hW => ⟨⟨0, (z_1, pm, pl, pb, cn, cv, an, n_an, av, n_av, G0), rfl, ⟨(Or.inl rfl), by (try dsimp only); exact ⟨(by first | omega | rfl | assumption | fail), (by first | omega | rfl | assumption | fail), (by first | omega | rfl | assumption | fail), (by first | omega | rfl | assumption | fail), (by first | omega | rfl | assumption | fail), (by first | omega | rfl | assumption | fail), (by first | omega | rfl | assumption | fail), (by first | omega | rfl | assumption | fail), (by first | omega | rfl | assumption | fail), (by first | omega | rfl | assumption | fail), (by first | omega | rfl | assumption | fail), (by first | omega | rfl | assumption | fail), (by first | omega | rfl | assumption | fail), (by first | omega | rfl | assumption | fail)⟩⟩, ⟨hh_2.ra (by first | (simp only; omega) | omega) (by first | (simp only; omega) | omega) (M1 := [(r0, 16, 12, .int z_1), (r0, 16, 11, .int pm), (r0, 16, 15, .int pl), (r0, 16, 16, .int pb), (bn, 0, 3, .int cn), (bv, 0, 3, .int cv), (bn, 0, 0, .ref an), (bv, 0, 0, .ref av)]) [0, 7, 8, 9, 3, 5, 4, 6] rfl ht, hg_an, hg_av, jNk.rf⟩⟩, by rw [ht]; try exact hh_2.1.1, fun q h9 hq => by rw [ht]; try exact hh_2.1.2.1 q h9 hq⟩) hh_2.1.2.2 dX14_headerByte_21
end
section
theorem dX14_give_0 : decode cX14_give 0 = .ok (.iload_n 1, 1) := by decide +kernel
theorem dX14_give_1 : decode cX14_give 1 = .ok (.ifCond .lt 11, 3) := by decide +kernel
theorem dX14_give_4 : decode cX14_give 4 = .ok (.iload_n 1, 1) := by decide +kernel
theorem dX14_give_5 : decode cX14_give 5 = .ok (.aload_n 0, 1) := by decide +kernel
theorem dX14_give_6 : decode cX14_give 6 = .ok (.getfield 217, 3) := by decide +kernel
theorem dX14_give_9 : decode cX14_give 9 = .ok (.if_icmp .le 5, 3) := by decide +kernel
theorem dX14_give_12 : decode cX14_give 12 = .ok (.iconst (-1), 1) := by decide +kernel
theorem dX14_give_13 : decode cX14_give 13 = .ok (.ireturn, 1) := by decide +kernel
theorem dX14_give_14 : decode cX14_give 14 = .ok (.aload_n 0, 1) := by decide +kernel
theorem dX14_give_15 : decode cX14_give 15 = .ok (.iconst 0, 1) := by decide +kernel
theorem dX14_give_16 : decode cX14_give 16 = .ok (.putfield 217, 3) := by decide +kernel
theorem dX14_give_19 : decode cX14_give 19 = .ok (.iconst 0, 1) := by decide +kernel
theorem dX14_give_20 : decode cX14_give 20 = .ok (.istore_n 2, 1) := by decide +kernel
theorem dX14_give_21 : decode cX14_give 21 = .ok (.iload_n 2, 1) := by decide +kernel
theorem dX14_give_22 : decode cX14_give 22 = .ok (.iload_n 1, 1) := by decide +kernel
theorem dX14_give_23 : decode cX14_give 23 = .ok (.if_icmp .ge 26, 3) := by decide +kernel
theorem dX14_give_26 : decode cX14_give 26 = .ok (.aload_n 0, 1) := by decide +kernel
theorem dX14_give_27 : decode cX14_give 27 = .ok (.getfield 202, 3) := by decide +kernel
theorem dX14_give_30 : decode cX14_give 30 = .ok (.ifCond .ne 19, 3) := by decide +kernel
theorem dX14_give_33 : decode cX14_give 33 = .ok (.aload_n 0, 1) := by decide +kernel
theorem dX14_give_34 : decode cX14_give 34 = .ok (.aload_n 0, 1) := by decide +kernel
theorem dX14_give_35 : decode cX14_give 35 = .ok (.getfield 9, 3) := by decide +kernel
theorem dX14_give_38 : decode cX14_give 38 = .ok (.iload_n 2, 1) := by decide +kernel
theorem dX14_give_39 : decode cX14_give 39 = .ok (.iaload, 1) := by decide +kernel
theorem dX14_give_40 : decode cX14_give 40 = .ok (.invokevirtual 270, 3) := by decide +kernel
theorem dX14_give_43 : decode cX14_give 43 = .ok (.iinc 2 1, 3) := by decide +kernel
theorem dX14_give_46 : decode cX14_give 46 = .ok (.goto (-25), 3) := by decide +kernel
theorem dX14_give_49 : decode cX14_give 49 = .ok (.aload_n 0, 1) := by decide +kernel
theorem dX14_give_50 : decode cX14_give 50 = .ok (.getfield 211, 3) := by decide +kernel
theorem dX14_give_53 : decode cX14_give 53 = .ok (.ireturn, 1) := by decide +kernel
end
section
-- what the kernel's walks need: raw arrays of ints, arrays whose last element is null, states, new goals
section J30
variable {p : Program} {l : Launch} {e : Env} {R : Room} {s : State} {m : MethodId} {args : Array Value} {below : List Frame} {meth : Method} {c : Code} {H : Heap} {locs : List Loc} {cells slots : Nat} {Q : State → Prop}
variable {cc : ByteArray} {pc : Nat} {ls : Array Slot} {rest : List Value} {dC : Nat → ClassId} {dI : Nat → Nat → Nat} {ca : Nat → ClassId} {B : jF} {base : Nat} {G0 G : jT} {E : List (Nat × Nat)} {H0 : Heap} {zc zs : Nat} {L : List jPin} {M : List jCt} {I : List jIv} {a a0 k k0 n n0 index : Nat} {tys : List (ClassId × FieldType)} {own C : String} {cA : ClassId}
end J30
theorem jTbk.one {f g : Nat → Int32} {n : Nat} {u w : Int} (hv : jSo f 0 = u) (hw : jSo g 0 = w) (h : u + w ≤ n) : jTbk f g n 1 := fun l h0 h1 => by
  obtain rfl : l = 0 := by omega
  rw [hv, hw]; exact h
theorem jPqk.one {f g : Nat → Int32} {b i0 i s i1 s1 : Int} (h : jPqk f g b i0 i s) (hi : i1 = i + 1) (h1 : jSo f i % 16 ≠ 10 ∨ b ≤ jSo f i / 32768) (hs : s1 = s + 1) : jPqk f g b i0 i1 s1 := h.step hi (by rw [hs]; unfold jW; rw [if_neg (by omega)])
theorem jPs.mono {f g : Nat → Int32} {b i0 e : Int} (hn : ∀ j, i0 ≤ j → j < e → 0 ≤ jW f g b j) (k : Nat) : ∀ m : Nat, k ≤ m → i0 + m ≤ e → jPs f g b i0 k ≤ jPs f g b i0 m
  | 0, h, _ => by rw [show k = 0 by omega]; exact Int.le_refl _
  | m + 1, h, h2 => by
    by_cases q : k = m + 1
    · rw [q]; exact Int.le_refl _
    · have h3 := jPs.mono hn k m (by omega) (by omega)
      have h4 := hn (i0 + m) (by omega) (by omega)
      show _ ≤ jPs f g b i0 m + jW f g b (i0 + m)
      omega
end
section
-- what reading JSON leaves: the strings and keys of the values stand apart among the units, and take bytes
/-- a value is made -/
theorem jJr.mk {C D : jC} {pv pu qu : Int} (h0 : 0 ≤ pv) (h1 : 0 ≤ pu) (hq : pu ≤ qu) (ho : ∀ i : Int, 0 ≤ i → i < pv → jE5 C D i) (hs : jSo D.1 pv = 3 → 0 ≤ jSo D.2.2.1 pv ∧ pu ≤ jSo D.2.1 pv ∧ jSo D.2.1 pv + jSo D.2.2.1 pv ≤ qu) (hk : jSo D.2.2.2.2 pv = 0) (hf : jSo D.2.2.2.1 pv = 0) : jJr C pv pu D (pv + 1) qu := by
  have e2 : ∀ e : Nat, 2 * pv ≤ e → (e : Int) < 2 * (pv + 1) → ((e / 2 : Nat) : Int) = pv := fun e a b => by omega
  have z1 : ∀ e : Nat, 2 * pv ≤ e → (e : Int) < 2 * (pv + 1) → e % 2 = 1 → jln D e = 0 := fun e a b c => by
    unfold jln
    rw [if_neg (by omega), e2 e a b, hk]
  have z2 : ∀ e : Nat, 2 * pv ≤ e → (e : Int) < 2 * (pv + 1) → e % 2 = 1 → jlo D e = 0 := fun e a b c => by
    unfold jlo
    rw [if_neg (by omega), e2 e a b, hf]
  refine ⟨by omega, ho, fun e a b => ?_, fun e e' a b c d ne => ?_⟩
  · by_cases q : e % 2 = 0
    · unfold jln jlo
      rw [if_pos q, if_pos q, e2 e a b]
      by_cases q3 : jSo D.1 pv = 3
      · rw [if_pos q3, if_pos q3]
        have := hs q3
        omega
      · rw [if_neg q3, if_neg q3]; omega
    · have := z1 e a b (by omega)
      have := z2 e a b (by omega)
      omega
  · by_cases q : e % 2 = 1
    · exact Or.inl (z1 e a b q)
    · exact Or.inr (Or.inl (z1 e' c d (by omega)))
def jMq (C D : jC) (n : Int) : Prop := ∀ i : Int, 0 ≤ i → i < n → jE5 C D i
def jMv (D : jC) (n k f s : Int) : Prop := jSo D.1 n = k ∧ jSo D.2.1 n = f ∧ jSo D.2.2.1 n = s ∧ jSo D.2.2.2.2 n = 0 ∧ jSo D.2.2.2.1 n = 0
theorem jSb.old {C D : jC} {n : Int} (h0 : 0 ≤ n) (h : jMq C D n) : jSb D.2.2.2.2 n.toNat = jSb C.2.2.2.2 n.toNat := jSb.cg _ (fun i hi => Or.inr (by
  have := (h i (by omega) (by omega)).2.2.2.2
  unfold jSo at this
  exact this))
theorem jVr.mk {C D : jC} {pv pu pt qv qu qt r k f s : Int} (hq : jMq C D pv) (hr : (r = -1 ∧ qv = pv) ∨ (r = pv ∧ qv = pv + 1)) (hm : r < 0 ∨ jMv D pv k f s) (h0 : 0 ≤ pv) (h1 : 0 ≤ pu) (hu : pu ≤ qu) (hs : k = 3 → f = pu ∧ s = qu - pu) (hb : qu - pu + 1 ≤ qt - pt) : jVr C pv pu pt D qv qu qt r := by
  rcases hr with ⟨e1, e2⟩ | ⟨e1, e2⟩
  · subst e2
    exact ⟨⟨⟨h0, by omega, h1, hu⟩, hq, fun e a b => by omega, fun e _ a b => by omega⟩, Or.inl (by omega)⟩
  · rcases hm with hm | ⟨m1, m2, m3, m4, m5⟩
    · omega
    · subst e2
      refine ⟨jJr.mk h0 h1 hu hq (fun h3 => ?_) m4 m5, Or.inr ⟨by omega, by omega, by rw [e1]; exact m4, ?_⟩⟩
      · have := hs (by omega)
        omega
      · rw [jSb.suc h0 rfl m4, jSb.old h0 hq]
        omega
end
section
-- the sentences of a document of the class: in order, none empty
theorem jSn.mono {b e : Nat → Int32} {s u u1 : Int} (h : jSn b e s u) (hu : u ≤ u1) : jSn b e s u1 := fun k a c => by
  have g := h k a c
  exact ⟨g.1, g.2.1, by omega, g.2.2.2⟩
end
section
-- the documents of the class: sentences in order, and what is still to be checked of the open ones
theorem jSmm.mono {G : jT} {x : Option Nat} {W : Nat → Nat} {N : Nat} : ∀ M, N ≤ M → jSmm G x W N ≤ jSmm G x W M
  | 0, h => by rw [Nat.le_zero.mp h]; exact Nat.le_refl _
  | M + 1, h => by
    by_cases e : N = M + 1
    · rw [e]; exact Nat.le_refl _
    · exact Nat.le_trans (jSmm.mono M (by omega)) (Nat.le_add_right _ _)
section J41
variable {dC : Nat → ClassId} {dI : Nat → Nat → Nat} {ca : Nat → ClassId} {G G1 : jT} {H H1 : Heap} {x : Option Nat} {ph : Nat}
/-- a document is opened: what is known of it, and what the others want -/
theorem jDcc.opn {a n : Nat} (h : jDcc dC dI ca G none ph H) (ha : G a = some (3, n)) : ∃ (yb ye w ph1 : Nat) (fb fe : Nat → Int32) (ps pk : Int32) (vc : Value), G yb = some (171, 40) ∧ G ye = some (172, 40) ∧ jf (dC, dI) 3 a 5 (.ref yb) H ∧ jf (dC, dI) 3 a 6 (.ref ye) H ∧ jD3 dC dI ca G a yb ye fb fe ps pk vc H ∧ (n = 0 → jPo fe ps.toInt pk.toInt vc w) ∧ jDcc dC dI ca G (some a) ph1 H ∧ ph1 ≤ ph ∧ (n = 0 → ph1 + w ≤ ph) := by
  obtain ⟨Yb, Ye, W, h1, h2, h3, h4, h5⟩ := h
  obtain ⟨g1, g2, g3, g4⟩ := h1 a n ha
  obtain ⟨fb, fe, ps, pk, vc, g, gp⟩ := h4 a n ha (fun q => by cases q)
  by_cases e : n = 0
  · subst e
    have hs : ∀ N, jSmm G (some a) W N ≤ ph - W a := fun N => by
      have m1 := jSmm.mono (G := G) (x := some a) (W := W) (N := N) (N + a + 1) (by omega)
      have m2 := jSmm.less (W := W) ha (N + a + 1)
      rw [if_pos (by omega : a < N + a + 1)] at m2
      have m3 := h5 (N + a + 1)
      omega
    have m0 := jSmm.less (W := W) ha (a + 1)
    rw [if_pos (by omega : a < a + 1)] at m0
    have m3 := h5 (a + 1)
    exact ⟨Yb a, Ye a, W a, ph - W a, fb, fe, ps, pk, vc, g3, g4, g1, g2, g, gp, ⟨Yb, Ye, W, h1, h2, h3, fun b m hb _ => h4 b m hb (fun q => by cases q), hs⟩, by omega, fun _ => by omega⟩
  · refine ⟨Yb a, Ye a, W a, ph, fb, fe, ps, pk, vc, g3, g4, g1, g2, g, gp, ⟨Yb, Ye, W, h1, h2, h3, fun b m hb _ => h4 b m hb (fun q => by cases q), fun N => ?_⟩, Nat.le_refl _, fun q => absurd q e⟩
    rw [jSmm.ne (fun q => e (by rw [ha] at q; exact congrArg Prod.snd (Option.some.inj q))) N]
    exact h5 N
/-- it is whole again -/
theorem jDcc.full {a n yb ye w : Nat} {fb fe : Nat → Int32} {ps pk : Int32} {vc : Value} (h : jDcc dC dI ca G (some a) ph H) (ha : G a = some (3, n)) (p5 : jf (dC, dI) 3 a 5 (.ref yb) H) (p6 : jf (dC, dI) 3 a 6 (.ref ye) H) (g : jD3 dC dI ca G a yb ye fb fe ps pk vc H) (gp : n = 0 → jPo fe ps.toInt pk.toInt vc w) {ph1 : Nat} (hp : ph ≤ ph1) (hw : n = 0 → ph + w ≤ ph1) : jDcc dC dI ca G none ph1 H := by
  obtain ⟨Yb, Ye, W, h1, h2, h3, h4, h5⟩ := h
  have e1 : Yb a = yb := by have := jf.uniq (h1 a n ha).1 p5; cases this; rfl
  have e2 : Ye a = ye := by have := jf.uniq (h1 a n ha).2.1 p6; cases this; rfl
  refine ⟨Yb, Ye, fun b => if b = a then w else W b, h1, h2, h3, fun b m hb _ => ?_, fun N => ?_⟩
  · by_cases e : b = a
    · subst e
      rw [e1, e2]
      have em : m = n := by
        rw [ha] at hb
        exact (congrArg Prod.snd (Option.some.inj hb)).symm
      refine ⟨fb, fe, ps, pk, vc, g, fun q => ?_⟩
      show jPo fe ps.toInt pk.toInt vc (if b = b then w else W b)
      rw [if_pos rfl]
      exact gp (em ▸ q)
    · obtain ⟨fb1, fe1, ps1, pk1, vc1, g1, gp1⟩ := h4 b m hb (fun q => e (Option.some.inj q).symm)
      refine ⟨fb1, fe1, ps1, pk1, vc1, g1, fun q => ?_⟩
      show jPo fe1 ps1.toInt pk1.toInt vc1 (if b = a then w else W b)
      rw [if_neg e]
      exact gp1 q
  · have c1 : ∀ M, jSmm G (some a) (fun b => if b = a then w else W b) M = jSmm G (some a) W M := jSmm.cg (fun _ => Iff.rfl) (fun M hM => if_neg (fun q => hM (by rw [q])))
    by_cases e : n = 0
    · subst e
      have m := jSmm.less (W := fun b => if b = a then w else W b) ha N
      rw [c1 N] at m
      have m5 := h5 N
      have m6 := hw rfl
      have m7 : (if a < N then (if a = a then w else W a) else 0) ≤ w := by
        by_cases q : a < N
        · rw [if_pos q, if_pos rfl]; exact Nat.le_refl _
        · rw [if_neg q]; omega
      omega
    · rw [← jSmm.ne (fun q => e (by rw [ha] at q; exact congrArg Prod.snd (Option.some.inj q))) N, c1 N]
      exact Nat.le_trans (h5 N) hp
end J41
end
section
-- how many bytes a message has at least: its strings and keys stand apart
theorem jCss.all {D : jC} {N : Int} : ∀ es : List Nat, (∀ e ∈ es, 0 ≤ jln D e ∧ jlo D e + jln D e ≤ N) → jCss D N es = jSuu D es
  | [], _ => rfl
  | e :: es, h => by
    have h1 := jCss.all (N := N) es (fun x hx => h x (List.mem_cons_of_mem _ hx))
    have h2 := h e List.mem_cons_self
    show jCl D N e + jCss D N es = jln D e + jSuu D es
    have h3 : jCl D N e = jln D e := by
      unfold jCl
      by_cases a : N ≤ jlo D e
      · rw [if_pos a]; omega
      · rw [if_neg a]
        by_cases b : N ≤ jlo D e + jln D e
        · rw [if_pos b]; omega
        · rw [if_neg b]
    omega
theorem jJr.sum {C D : jC} {qv qu : Int} (h : jJr C 0 0 D qv qu) (es : List Nat) (hl : ∀ e ∈ es, (e : Int) < 2 * qv) (hn : es.Pairwise (· ≠ ·)) : jSuu D es ≤ qu := by
  obtain ⟨h1, h2, h3, h4⟩ := h
  have b : ∀ e ∈ es, (0 ≤ jln D e ∧ 0 ≤ jlo D e) ∧ jlo D e + jln D e ≤ qu := fun e he => by
    have := h3 e (by omega) (hl e he)
    omega
  have hp : es.Pairwise (jDjn D) := hn.imp_of_mem (fun ha hb ne => h4 _ _ (by omega) (hl _ ha) (by omega) (hl _ hb) ne)
  have c := jCss.le hp (fun e he => (b e he).1.1) (fun e he => (b e he).1.2) qu.toNat
  have e1 : ((qu.toNat : Nat) : Int) = qu := by omega
  rw [e1, jCss.all es (fun e he => ⟨(b e he).1.1, (b e he).2⟩)] at c
  exact c
theorem jSb.many {f : Nat → Int32} {is : List Nat} (hp : is.Pairwise (· ≠ ·)) (hf : ∀ i ∈ is, 1 ≤ (f i).toInt) : ∀ n : Nat, jCi n is + 2 * (n : Int) ≤ jSb f n
  | 0 => by
    have z : ∀ is : List Nat, jCi 0 is = 0 := fun is => by
      induction is with
      | nil => rfl
      | cons i is ih => show (if i < 0 then (3 : Int) else 0) + jCi 0 is = 0; rw [if_neg (by omega), ih]; rfl
    rw [z is]
    show (0 : Int) + 2 * 0 ≤ 0
    omega
  | n + 1 => by
    have h1 := jSb.many hp hf n
    have h2 := jCi.suc (n := n) (f := f) is hp hf
    show jCi (n + 1) is + 2 * ((n + 1 : Nat) : Int) ≤ jSb f n + (if 1 ≤ (f n).toInt then 5 else 2)
    by_cases q : 1 ≤ (f n).toInt
    · rw [if_pos q] at h2 ⊢; omega
    · rw [if_neg q] at h2 ⊢; omega
end
section
-- p11: bits; the tape on both sides; bytes read as UTF-8; the text that comes of them
theorem jOth.mk {n : Nat} {f g : Nat → Int32} {e x : Int} (ho : ∀ j, j < n → j ≠ e.toNat → g j = f j) (he : e = x) (h0 : 0 ≤ x) : jOth n f g x := fun j q0 q1 q2 => by
  unfold jSo
  rw [ho j.toNat (by omega) (by omega)]
theorem jVtx.app {g g1 : Nat → Int32} {P : List Int} {c w : Int} (h : jVtx g P) (hw : w = P.length) (ho : ∀ j : Int, 0 ≤ j → j < w → jSo g1 j = jSo g j) (hc : jSo g1 w = c) : jVtx g1 (P ++ [c]) := fun j q0 q1 => by
  have hl : (P ++ [c]).length = P.length + 1 := by simp
  rw [hl] at q1
  by_cases w1 : j < w
  · rw [ho j q0 w1, h j q0 (by omega), List.getD_eq_getElem?_getD, List.getD_eq_getElem?_getD, List.getElem?_append_left (by omega)]
  · have e : j = w := by omega
    subst e
    rw [hc, List.getD_eq_getElem?_getD, List.getElem?_append_right (by omega), show j.toNat - P.length = 0 by omega]
    rfl
theorem jDe.one {b : Int → Int} {n w i c u w1 i1 : Int} {g g1 : Nat → Int32} (h : jDe b n g w i) (hi : i < n) (hc : c = jUc b i n) (h1 : c < 65536) (ho : ∀ j : Int, 0 ≤ j → j < w → jSo g1 j = jSo g j) (hv : jSo g1 w = u) (hu : u = if c < 0 then 65533 else c) (ei : i1 = i + jUs c) (ew : w1 = w + 1) : jDe b n g1 w1 i1 := by
  obtain ⟨P, k, hk, hw, hx, hP⟩ := h
  have hs := jUs.r c
  refine ⟨P ++ [u], k - 1, by omega, by rw [List.length_append, ew, hw]; rfl, hx.app hw ho hv, ?_⟩
  rw [← hP, jUl_s (by omega) hi, ← hc, List.append_assoc, ei]
  congr 2
  unfold jUu
  rw [hu]
  by_cases q : c < 0
  · rw [if_pos q, if_pos q]
  · rw [if_neg q, if_neg q, if_pos h1]
theorem jDe.long {b : Int → Int} {n w i c s m : Int} {g : Nat → Int32} (h : jDe b n g w i) (hi : i < n) (hc : c = jUc b i n) (hs : (65536 ≤ c ∧ s = 2) ∨ (c < 65536 ∧ s = 1)) (hm : m < w + s) : m < (jTl b n).length := by
  obtain ⟨P, k, hk, hw, hx, hP⟩ := h
  have e : ((jUu c).length : Int) = s := by
    unfold jUu
    rcases hs with ⟨q, e⟩ | ⟨q, e⟩
    · rw [if_neg (by omega), if_neg (by omega), e]; rfl
    · by_cases q2 : c < 0
      · rw [if_pos q2, e]; rfl
      · rw [if_neg q2, if_pos q, e]; rfl
  rw [← hP, jUl_s (by omega) hi, ← hc, List.length_append, List.length_append]
  omega
theorem jBa.long {b : Int → Int} {n r : Int} (h : 1500 < ((jTl b n).length : Int)) (e : r = -2) : jBa b n r := Or.inl ⟨h, e⟩
section JP1
variable {p : Program} {l : Launch} {e : Env} {R : Room} {s : State} {m : MethodId} {args : Array Value} {below : List Frame} {meth : Method} {c : Code} {H : Heap} {locs : List Loc} {cells slots : Nat} {Q : State → Prop}
variable {cc : ByteArray} {pc : Nat} {ls : Array Slot} {rest : List Value} {D : va_G} {cl : List vw_C} {A : Nat → Prop} {a : Nat} {tys : List (ClassId × FieldType)}
end JP1
section JP2
variable {p : Program} {l : Launch} {e : Env} {R : Room} {s : State} {m : MethodId} {args : Array Value} {below : List Frame} {meth : Method} {c : Code} {H : Heap} {locs : List Loc} {cells slots : Nat} {Q : State → Prop}
variable {cc : ByteArray} {pc : Nat} {ls : Array Slot} {rest : List Value} {dC : Nat → ClassId} {dI : Nat → Nat → Nat} {ca : Nat → ClassId} {B : jF} {base : Nat} {G0 G : jT} {E : List (Nat × Nat)} {H0 : Heap} {zc zs : Nat} {L : List jPin} {M : List jCt} {I : List jIv} {a k n : Nat} {cA : ClassId} {tys : List (ClassId × FieldType)}
end JP2
end
