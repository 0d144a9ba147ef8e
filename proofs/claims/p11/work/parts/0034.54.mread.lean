section
theorem dX14_readNumber_0 : decode cX14_readNumber 0 = .ok (.aload_n 0, 1) := by decide +kernel
theorem dX14_readNumber_1 : decode cX14_readNumber 1 = .ok (.iconst 3, 1) := by decide +kernel
theorem dX14_readNumber_2 : decode cX14_readNumber 2 = .ok (.invokevirtual 295, 3) := by decide +kernel
theorem dX14_readNumber_5 : decode cX14_readNumber 5 = .ok (.istore_n 1, 1) := by decide +kernel
theorem dX14_readNumber_6 : decode cX14_readNumber 6 = .ok (.aload_n 0, 1) := by decide +kernel
theorem dX14_readNumber_7 : decode cX14_readNumber 7 = .ok (.invokevirtual 279, 3) := by decide +kernel
theorem dX14_readNumber_10 : decode cX14_readNumber 10 = .ok (.bipush 45, 2) := by decide +kernel
theorem dX14_readNumber_12 : decode cX14_readNumber 12 = .ok (.if_icmp .ne 7, 3) := by decide +kernel
theorem dX14_readNumber_15 : decode cX14_readNumber 15 = .ok (.iconst 1, 1) := by decide +kernel
theorem dX14_readNumber_16 : decode cX14_readNumber 16 = .ok (.goto 4, 3) := by decide +kernel
theorem dX14_readNumber_19 : decode cX14_readNumber 19 = .ok (.iconst 0, 1) := by decide +kernel
theorem dX14_readNumber_20 : decode cX14_readNumber 20 = .ok (.istore_n 2, 1) := by decide +kernel
theorem dX14_readNumber_21 : decode cX14_readNumber 21 = .ok (.iload_n 2, 1) := by decide +kernel
theorem dX14_readNumber_22 : decode cX14_readNumber 22 = .ok (.ifCond .eq 13, 3) := by decide +kernel
theorem dX14_readNumber_25 : decode cX14_readNumber 25 = .ok (.aload_n 0, 1) := by decide +kernel
theorem dX14_readNumber_26 : decode cX14_readNumber 26 = .ok (.dup, 1) := by decide +kernel
theorem dX14_readNumber_27 : decode cX14_readNumber 27 = .ok (.getfield 273, 3) := by decide +kernel
theorem dX14_readNumber_30 : decode cX14_readNumber 30 = .ok (.iconst 1, 1) := by decide +kernel
theorem dX14_readNumber_31 : decode cX14_readNumber 31 = .ok (.iadd, 1) := by decide +kernel
theorem dX14_readNumber_32 : decode cX14_readNumber 32 = .ok (.putfield 273, 3) := by decide +kernel
theorem dX14_readNumber_35 : decode cX14_readNumber 35 = .ok (.aload_n 0, 1) := by decide +kernel
theorem dX14_readNumber_36 : decode cX14_readNumber 36 = .ok (.getfield 273, 3) := by decide +kernel
theorem dX14_readNumber_39 : decode cX14_readNumber 39 = .ok (.istore_n 3, 1) := by decide +kernel
theorem dX14_readNumber_40 : decode cX14_readNumber 40 = .ok (.lconst 0, 1) := by decide +kernel
theorem dX14_readNumber_41 : decode cX14_readNumber 41 = .ok (.lstore 4, 2) := by decide +kernel
theorem dX14_readNumber_43 : decode cX14_readNumber 43 = .ok (.aload_n 0, 1) := by decide +kernel
theorem dX14_readNumber_44 : decode cX14_readNumber 44 = .ok (.invokevirtual 279, 3) := by decide +kernel
theorem dX14_readNumber_47 : decode cX14_readNumber 47 = .ok (.invokestatic 224, 3) := by decide +kernel
theorem dX14_readNumber_50 : decode cX14_readNumber 50 = .ok (.ifCond .eq 48, 3) := by decide +kernel
theorem dX14_readNumber_53 : decode cX14_readNumber 53 = .ok (.lload 4, 2) := by decide +kernel
theorem dX14_readNumber_55 : decode cX14_readNumber 55 = .ok (.ldc2_w 320, 3) := by decide +kernel
theorem dX14_readNumber_58 : decode cX14_readNumber 58 = .ok (.lcmp, 1) := by decide +kernel
theorem dX14_readNumber_59 : decode cX14_readNumber 59 = .ok (.ifCond .le 8, 3) := by decide +kernel
theorem dX14_readNumber_62 : decode cX14_readNumber 62 = .ok (.lload 4, 2) := by decide +kernel
theorem dX14_readNumber_64 : decode cX14_readNumber 64 = .ok (.goto 19, 3) := by decide +kernel
theorem dX14_readNumber_67 : decode cX14_readNumber 67 = .ok (.ldc2_w 322, 3) := by decide +kernel
theorem dX14_readNumber_70 : decode cX14_readNumber 70 = .ok (.lload 4, 2) := by decide +kernel
theorem dX14_readNumber_72 : decode cX14_readNumber 72 = .ok (.lmul, 1) := by decide +kernel
theorem dX14_readNumber_73 : decode cX14_readNumber 73 = .ok (.aload_n 0, 1) := by decide +kernel
theorem dX14_readNumber_74 : decode cX14_readNumber 74 = .ok (.invokevirtual 279, 3) := by decide +kernel
theorem dX14_readNumber_77 : decode cX14_readNumber 77 = .ok (.i2l, 1) := by decide +kernel
theorem dX14_readNumber_78 : decode cX14_readNumber 78 = .ok (.ladd, 1) := by decide +kernel
theorem dX14_readNumber_79 : decode cX14_readNumber 79 = .ok (.ldc2_w 324, 3) := by decide +kernel
theorem dX14_readNumber_82 : decode cX14_readNumber 82 = .ok (.lsub, 1) := by decide +kernel
theorem dX14_readNumber_83 : decode cX14_readNumber 83 = .ok (.lstore 4, 2) := by decide +kernel
theorem dX14_readNumber_85 : decode cX14_readNumber 85 = .ok (.aload_n 0, 1) := by decide +kernel
theorem dX14_readNumber_86 : decode cX14_readNumber 86 = .ok (.dup, 1) := by decide +kernel
theorem dX14_readNumber_87 : decode cX14_readNumber 87 = .ok (.getfield 273, 3) := by decide +kernel
theorem dX14_readNumber_90 : decode cX14_readNumber 90 = .ok (.iconst 1, 1) := by decide +kernel
theorem dX14_readNumber_91 : decode cX14_readNumber 91 = .ok (.iadd, 1) := by decide +kernel
theorem dX14_readNumber_92 : decode cX14_readNumber 92 = .ok (.putfield 273, 3) := by decide +kernel
theorem dX14_readNumber_95 : decode cX14_readNumber 95 = .ok (.goto (-52), 3) := by decide +kernel
theorem dX14_readNumber_98 : decode cX14_readNumber 98 = .ok (.aload_n 0, 1) := by decide +kernel
theorem dX14_readNumber_99 : decode cX14_readNumber 99 = .ok (.getfield 273, 3) := by decide +kernel
theorem dX14_readNumber_102 : decode cX14_readNumber 102 = .ok (.iload_n 3, 1) := by decide +kernel
theorem dX14_readNumber_103 : decode cX14_readNumber 103 = .ok (.if_icmp .eq 24, 3) := by decide +kernel
theorem dX14_readNumber_106 : decode cX14_readNumber 106 = .ok (.aload_n 0, 1) := by decide +kernel
theorem dX14_readNumber_107 : decode cX14_readNumber 107 = .ok (.getfield 20, 3) := by decide +kernel
theorem dX14_readNumber_110 : decode cX14_readNumber 110 = .ok (.iload_n 3, 1) := by decide +kernel
theorem dX14_readNumber_111 : decode cX14_readNumber 111 = .ok (.iaload, 1) := by decide +kernel
theorem dX14_readNumber_112 : decode cX14_readNumber 112 = .ok (.bipush 48, 2) := by decide +kernel
theorem dX14_readNumber_114 : decode cX14_readNumber 114 = .ok (.if_icmp .ne 18, 3) := by decide +kernel
theorem dX14_readNumber_117 : decode cX14_readNumber 117 = .ok (.aload_n 0, 1) := by decide +kernel
theorem dX14_readNumber_118 : decode cX14_readNumber 118 = .ok (.getfield 273, 3) := by decide +kernel
theorem dX14_readNumber_121 : decode cX14_readNumber 121 = .ok (.iload_n 3, 1) := by decide +kernel
theorem dX14_readNumber_122 : decode cX14_readNumber 122 = .ok (.isub, 1) := by decide +kernel
theorem dX14_readNumber_123 : decode cX14_readNumber 123 = .ok (.iconst 1, 1) := by decide +kernel
theorem dX14_readNumber_124 : decode cX14_readNumber 124 = .ok (.if_icmp .le 8, 3) := by decide +kernel
theorem dX14_readNumber_127 : decode cX14_readNumber 127 = .ok (.aload_n 0, 1) := by decide +kernel
theorem dX14_readNumber_128 : decode cX14_readNumber 128 = .ok (.iconst 1, 1) := by decide +kernel
theorem dX14_readNumber_129 : decode cX14_readNumber 129 = .ok (.putfield 288, 3) := by decide +kernel
theorem dX14_readNumber_132 : decode cX14_readNumber 132 = .ok (.iconst 1, 1) := by decide +kernel
theorem dX14_readNumber_133 : decode cX14_readNumber 133 = .ok (.istore 6, 2) := by decide +kernel
theorem dX14_readNumber_135 : decode cX14_readNumber 135 = .ok (.aload_n 0, 1) := by decide +kernel
theorem dX14_readNumber_136 : decode cX14_readNumber 136 = .ok (.getfield 288, 3) := by decide +kernel
theorem dX14_readNumber_139 : decode cX14_readNumber 139 = .ok (.ifCond .ne 29, 3) := by decide +kernel
theorem dX14_readNumber_142 : decode cX14_readNumber 142 = .ok (.aload_n 0, 1) := by decide +kernel
theorem dX14_readNumber_143 : decode cX14_readNumber 143 = .ok (.invokevirtual 279, 3) := by decide +kernel
theorem dX14_readNumber_146 : decode cX14_readNumber 146 = .ok (.bipush 46, 2) := by decide +kernel
theorem dX14_readNumber_148 : decode cX14_readNumber 148 = .ok (.if_icmp .ne 20, 3) := by decide +kernel
theorem dX14_readNumber_151 : decode cX14_readNumber 151 = .ok (.iconst 0, 1) := by decide +kernel
theorem dX14_readNumber_152 : decode cX14_readNumber 152 = .ok (.istore 6, 2) := by decide +kernel
theorem dX14_readNumber_154 : decode cX14_readNumber 154 = .ok (.aload_n 0, 1) := by decide +kernel
theorem dX14_readNumber_155 : decode cX14_readNumber 155 = .ok (.dup, 1) := by decide +kernel
theorem dX14_readNumber_156 : decode cX14_readNumber 156 = .ok (.getfield 273, 3) := by decide +kernel
theorem dX14_readNumber_159 : decode cX14_readNumber 159 = .ok (.iconst 1, 1) := by decide +kernel
theorem dX14_readNumber_160 : decode cX14_readNumber 160 = .ok (.iadd, 1) := by decide +kernel
theorem dX14_readNumber_161 : decode cX14_readNumber 161 = .ok (.putfield 273, 3) := by decide +kernel
theorem dX14_readNumber_164 : decode cX14_readNumber 164 = .ok (.aload_n 0, 1) := by decide +kernel
theorem dX14_readNumber_165 : decode cX14_readNumber 165 = .ok (.invokevirtual 326, 3) := by decide +kernel
theorem dX14_readNumber_168 : decode cX14_readNumber 168 = .ok (.aload_n 0, 1) := by decide +kernel
theorem dX14_readNumber_169 : decode cX14_readNumber 169 = .ok (.getfield 288, 3) := by decide +kernel
theorem dX14_readNumber_172 : decode cX14_readNumber 172 = .ok (.ifCond .ne 66, 3) := by decide +kernel
theorem dX14_readNumber_175 : decode cX14_readNumber 175 = .ok (.aload_n 0, 1) := by decide +kernel
theorem dX14_readNumber_176 : decode cX14_readNumber 176 = .ok (.invokevirtual 279, 3) := by decide +kernel
theorem dX14_readNumber_179 : decode cX14_readNumber 179 = .ok (.bipush 101, 2) := by decide +kernel
theorem dX14_readNumber_181 : decode cX14_readNumber 181 = .ok (.if_icmp .eq 12, 3) := by decide +kernel
theorem dX14_readNumber_184 : decode cX14_readNumber 184 = .ok (.aload_n 0, 1) := by decide +kernel
theorem dX14_readNumber_185 : decode cX14_readNumber 185 = .ok (.invokevirtual 279, 3) := by decide +kernel
theorem dX14_readNumber_188 : decode cX14_readNumber 188 = .ok (.bipush 69, 2) := by decide +kernel
theorem dX14_readNumber_190 : decode cX14_readNumber 190 = .ok (.if_icmp .ne 48, 3) := by decide +kernel
theorem dX14_readNumber_193 : decode cX14_readNumber 193 = .ok (.iconst 0, 1) := by decide +kernel
theorem dX14_readNumber_194 : decode cX14_readNumber 194 = .ok (.istore 6, 2) := by decide +kernel
theorem dX14_readNumber_196 : decode cX14_readNumber 196 = .ok (.aload_n 0, 1) := by decide +kernel
theorem dX14_readNumber_197 : decode cX14_readNumber 197 = .ok (.dup, 1) := by decide +kernel
theorem dX14_readNumber_198 : decode cX14_readNumber 198 = .ok (.getfield 273, 3) := by decide +kernel
theorem dX14_readNumber_201 : decode cX14_readNumber 201 = .ok (.iconst 1, 1) := by decide +kernel
theorem dX14_readNumber_202 : decode cX14_readNumber 202 = .ok (.iadd, 1) := by decide +kernel
theorem dX14_readNumber_203 : decode cX14_readNumber 203 = .ok (.putfield 273, 3) := by decide +kernel
theorem dX14_readNumber_206 : decode cX14_readNumber 206 = .ok (.aload_n 0, 1) := by decide +kernel
theorem dX14_readNumber_207 : decode cX14_readNumber 207 = .ok (.invokevirtual 279, 3) := by decide +kernel
theorem dX14_readNumber_210 : decode cX14_readNumber 210 = .ok (.bipush 43, 2) := by decide +kernel
theorem dX14_readNumber_212 : decode cX14_readNumber 212 = .ok (.if_icmp .eq 12, 3) := by decide +kernel
theorem dX14_readNumber_215 : decode cX14_readNumber 215 = .ok (.aload_n 0, 1) := by decide +kernel
theorem dX14_readNumber_216 : decode cX14_readNumber 216 = .ok (.invokevirtual 279, 3) := by decide +kernel
theorem dX14_readNumber_219 : decode cX14_readNumber 219 = .ok (.bipush 45, 2) := by decide +kernel
theorem dX14_readNumber_221 : decode cX14_readNumber 221 = .ok (.if_icmp .ne 13, 3) := by decide +kernel
theorem dX14_readNumber_224 : decode cX14_readNumber 224 = .ok (.aload_n 0, 1) := by decide +kernel
theorem dX14_readNumber_225 : decode cX14_readNumber 225 = .ok (.dup, 1) := by decide +kernel
theorem dX14_readNumber_226 : decode cX14_readNumber 226 = .ok (.getfield 273, 3) := by decide +kernel
theorem dX14_readNumber_229 : decode cX14_readNumber 229 = .ok (.iconst 1, 1) := by decide +kernel
theorem dX14_readNumber_230 : decode cX14_readNumber 230 = .ok (.iadd, 1) := by decide +kernel
theorem dX14_readNumber_231 : decode cX14_readNumber 231 = .ok (.putfield 273, 3) := by decide +kernel
theorem dX14_readNumber_234 : decode cX14_readNumber 234 = .ok (.aload_n 0, 1) := by decide +kernel
theorem dX14_readNumber_235 : decode cX14_readNumber 235 = .ok (.invokevirtual 326, 3) := by decide +kernel
theorem dX14_readNumber_238 : decode cX14_readNumber 238 = .ok (.iload_n 2, 1) := by decide +kernel
theorem dX14_readNumber_239 : decode cX14_readNumber 239 = .ok (.ifCond .eq 9, 3) := by decide +kernel
theorem dX14_readNumber_242 : decode cX14_readNumber 242 = .ok (.lload 4, 2) := by decide +kernel
theorem dX14_readNumber_244 : decode cX14_readNumber 244 = .ok (.lneg, 1) := by decide +kernel
theorem dX14_readNumber_245 : decode cX14_readNumber 245 = .ok (.goto 5, 3) := by decide +kernel
theorem dX14_readNumber_248 : decode cX14_readNumber 248 = .ok (.lload 4, 2) := by decide +kernel
theorem dX14_readNumber_250 : decode cX14_readNumber 250 = .ok (.lstore 7, 2) := by decide +kernel
theorem dX14_readNumber_252 : decode cX14_readNumber 252 = .ok (.aload_n 0, 1) := by decide +kernel
theorem dX14_readNumber_253 : decode cX14_readNumber 253 = .ok (.getfield 58, 3) := by decide +kernel
theorem dX14_readNumber_256 : decode cX14_readNumber 256 = .ok (.iload_n 1, 1) := by decide +kernel
theorem dX14_readNumber_257 : decode cX14_readNumber 257 = .ok (.iload 6, 2) := by decide +kernel
theorem dX14_readNumber_259 : decode cX14_readNumber 259 = .ok (.ifCond .eq 25, 3) := by decide +kernel
theorem dX14_readNumber_262 : decode cX14_readNumber 262 = .ok (.lload 7, 2) := by decide +kernel
theorem dX14_readNumber_264 : decode cX14_readNumber 264 = .ok (.ldc2_w 329, 3) := by decide +kernel
theorem dX14_readNumber_267 : decode cX14_readNumber 267 = .ok (.lcmp, 1) := by decide +kernel
theorem dX14_readNumber_268 : decode cX14_readNumber 268 = .ok (.ifCond .lt 16, 3) := by decide +kernel
theorem dX14_readNumber_271 : decode cX14_readNumber 271 = .ok (.lload 7, 2) := by decide +kernel
theorem dX14_readNumber_273 : decode cX14_readNumber 273 = .ok (.ldc2_w 331, 3) := by decide +kernel
theorem dX14_readNumber_276 : decode cX14_readNumber 276 = .ok (.lcmp, 1) := by decide +kernel
theorem dX14_readNumber_277 : decode cX14_readNumber 277 = .ok (.ifCond .gt 7, 3) := by decide +kernel
theorem dX14_readNumber_280 : decode cX14_readNumber 280 = .ok (.iconst 1, 1) := by decide +kernel
theorem dX14_readNumber_281 : decode cX14_readNumber 281 = .ok (.goto 4, 3) := by decide +kernel
theorem dX14_readNumber_284 : decode cX14_readNumber 284 = .ok (.iconst 0, 1) := by decide +kernel
theorem dX14_readNumber_285 : decode cX14_readNumber 285 = .ok (.bastore, 1) := by decide +kernel
theorem dX14_readNumber_286 : decode cX14_readNumber 286 = .ok (.aload_n 0, 1) := by decide +kernel
theorem dX14_readNumber_287 : decode cX14_readNumber 287 = .ok (.getfield 62, 3) := by decide +kernel
theorem dX14_readNumber_290 : decode cX14_readNumber 290 = .ok (.iload_n 1, 1) := by decide +kernel
theorem dX14_readNumber_291 : decode cX14_readNumber 291 = .ok (.lload 7, 2) := by decide +kernel
theorem dX14_readNumber_293 : decode cX14_readNumber 293 = .ok (.l2i, 1) := by decide +kernel
theorem dX14_readNumber_294 : decode cX14_readNumber 294 = .ok (.iastore, 1) := by decide +kernel
theorem dX14_readNumber_295 : decode cX14_readNumber 295 = .ok (.iload_n 1, 1) := by decide +kernel
theorem dX14_readNumber_296 : decode cX14_readNumber 296 = .ok (.ireturn, 1) := by decide +kernel
theorem dX14_utfLength_0 : decode cX14_utfLength 0 = .ok (.aload_n 1, 1) := by decide +kernel
theorem dX14_utfLength_1 : decode cX14_utfLength 1 = .ok (.iload_n 2, 1) := by decide +kernel
theorem dX14_utfLength_2 : decode cX14_utfLength 2 = .ok (.iaload, 1) := by decide +kernel
theorem dX14_utfLength_3 : decode cX14_utfLength 3 = .ok (.istore 4, 2) := by decide +kernel
theorem dX14_utfLength_5 : decode cX14_utfLength 5 = .ok (.aload_n 0, 1) := by decide +kernel
theorem dX14_utfLength_6 : decode cX14_utfLength 6 = .ok (.iload 4, 2) := by decide +kernel
theorem dX14_utfLength_8 : decode cX14_utfLength 8 = .ok (.putfield 357, 3) := by decide +kernel
theorem dX14_utfLength_11 : decode cX14_utfLength 11 = .ok (.iload 4, 2) := by decide +kernel
theorem dX14_utfLength_13 : decode cX14_utfLength 13 = .ok (.sipush 128, 3) := by decide +kernel
theorem dX14_utfLength_16 : decode cX14_utfLength 16 = .ok (.if_icmp .ge 5, 3) := by decide +kernel
theorem dX14_utfLength_19 : decode cX14_utfLength 19 = .ok (.iconst 1, 1) := by decide +kernel
theorem dX14_utfLength_20 : decode cX14_utfLength 20 = .ok (.ireturn, 1) := by decide +kernel
theorem dX14_utfLength_21 : decode cX14_utfLength 21 = .ok (.iload 4, 2) := by decide +kernel
theorem dX14_utfLength_23 : decode cX14_utfLength 23 = .ok (.sipush 194, 3) := by decide +kernel
theorem dX14_utfLength_26 : decode cX14_utfLength 26 = .ok (.sipush 223, 3) := by decide +kernel
theorem dX14_utfLength_29 : decode cX14_utfLength 29 = .ok (.invokestatic 181, 3) := by decide +kernel
theorem dX14_utfLength_32 : decode cX14_utfLength 32 = .ok (.ifCond .eq 7, 3) := by decide +kernel
theorem dX14_utfLength_35 : decode cX14_utfLength 35 = .ok (.iconst 2, 1) := by decide +kernel
theorem dX14_utfLength_36 : decode cX14_utfLength 36 = .ok (.goto 40, 3) := by decide +kernel
theorem dX14_utfLength_39 : decode cX14_utfLength 39 = .ok (.iload 4, 2) := by decide +kernel
theorem dX14_utfLength_41 : decode cX14_utfLength 41 = .ok (.sipush 224, 3) := by decide +kernel
theorem dX14_utfLength_44 : decode cX14_utfLength 44 = .ok (.sipush 239, 3) := by decide +kernel
theorem dX14_utfLength_47 : decode cX14_utfLength 47 = .ok (.invokestatic 181, 3) := by decide +kernel
theorem dX14_utfLength_50 : decode cX14_utfLength 50 = .ok (.ifCond .eq 7, 3) := by decide +kernel
theorem dX14_utfLength_53 : decode cX14_utfLength 53 = .ok (.iconst 3, 1) := by decide +kernel
theorem dX14_utfLength_54 : decode cX14_utfLength 54 = .ok (.goto 22, 3) := by decide +kernel
theorem dX14_utfLength_57 : decode cX14_utfLength 57 = .ok (.iload 4, 2) := by decide +kernel
theorem dX14_utfLength_59 : decode cX14_utfLength 59 = .ok (.sipush 240, 3) := by decide +kernel
theorem dX14_utfLength_62 : decode cX14_utfLength 62 = .ok (.sipush 244, 3) := by decide +kernel
theorem dX14_utfLength_65 : decode cX14_utfLength 65 = .ok (.invokestatic 181, 3) := by decide +kernel
theorem dX14_utfLength_68 : decode cX14_utfLength 68 = .ok (.ifCond .eq 7, 3) := by decide +kernel
theorem dX14_utfLength_71 : decode cX14_utfLength 71 = .ok (.iconst 4, 1) := by decide +kernel
theorem dX14_utfLength_72 : decode cX14_utfLength 72 = .ok (.goto 4, 3) := by decide +kernel
theorem dX14_utfLength_75 : decode cX14_utfLength 75 = .ok (.iconst 0, 1) := by decide +kernel
theorem dX14_utfLength_76 : decode cX14_utfLength 76 = .ok (.istore 5, 2) := by decide +kernel
theorem dX14_utfLength_78 : decode cX14_utfLength 78 = .ok (.iload 5, 2) := by decide +kernel
theorem dX14_utfLength_80 : decode cX14_utfLength 80 = .ok (.ifCond .eq 11, 3) := by decide +kernel
theorem dX14_utfLength_83 : decode cX14_utfLength 83 = .ok (.iload_n 2, 1) := by decide +kernel
theorem dX14_utfLength_84 : decode cX14_utfLength 84 = .ok (.iload 5, 2) := by decide +kernel
theorem dX14_utfLength_86 : decode cX14_utfLength 86 = .ok (.iadd, 1) := by decide +kernel
theorem dX14_utfLength_87 : decode cX14_utfLength 87 = .ok (.iload_n 3, 1) := by decide +kernel
theorem dX14_utfLength_88 : decode cX14_utfLength 88 = .ok (.if_icmp .le 5, 3) := by decide +kernel
theorem dX14_utfLength_91 : decode cX14_utfLength 91 = .ok (.iconst 0, 1) := by decide +kernel
theorem dX14_utfLength_92 : decode cX14_utfLength 92 = .ok (.ireturn, 1) := by decide +kernel
theorem dX14_utfLength_93 : decode cX14_utfLength 93 = .ok (.iload 5, 2) := by decide +kernel
theorem dX14_utfLength_95 : decode cX14_utfLength 95 = .ok (.iconst 2, 1) := by decide +kernel
theorem dX14_utfLength_96 : decode cX14_utfLength 96 = .ok (.if_icmp .ne 11, 3) := by decide +kernel
theorem dX14_utfLength_99 : decode cX14_utfLength 99 = .ok (.iload 4, 2) := by decide +kernel
theorem dX14_utfLength_101 : decode cX14_utfLength 101 = .ok (.bipush 31, 2) := by decide +kernel
theorem dX14_utfLength_103 : decode cX14_utfLength 103 = .ok (.iand, 1) := by decide +kernel
theorem dX14_utfLength_104 : decode cX14_utfLength 104 = .ok (.goto 22, 3) := by decide +kernel
theorem dX14_utfLength_107 : decode cX14_utfLength 107 = .ok (.iload 5, 2) := by decide +kernel
theorem dX14_utfLength_109 : decode cX14_utfLength 109 = .ok (.iconst 3, 1) := by decide +kernel
theorem dX14_utfLength_110 : decode cX14_utfLength 110 = .ok (.if_icmp .ne 11, 3) := by decide +kernel
theorem dX14_utfLength_113 : decode cX14_utfLength 113 = .ok (.iload 4, 2) := by decide +kernel
theorem dX14_utfLength_115 : decode cX14_utfLength 115 = .ok (.bipush 15, 2) := by decide +kernel
theorem dX14_utfLength_117 : decode cX14_utfLength 117 = .ok (.iand, 1) := by decide +kernel
theorem dX14_utfLength_118 : decode cX14_utfLength 118 = .ok (.goto 8, 3) := by decide +kernel
theorem dX14_utfLength_121 : decode cX14_utfLength 121 = .ok (.iload 4, 2) := by decide +kernel
theorem dX14_utfLength_123 : decode cX14_utfLength 123 = .ok (.bipush 7, 2) := by decide +kernel
theorem dX14_utfLength_125 : decode cX14_utfLength 125 = .ok (.iand, 1) := by decide +kernel
theorem dX14_utfLength_126 : decode cX14_utfLength 126 = .ok (.istore 6, 2) := by decide +kernel
theorem dX14_utfLength_128 : decode cX14_utfLength 128 = .ok (.iconst 1, 1) := by decide +kernel
theorem dX14_utfLength_129 : decode cX14_utfLength 129 = .ok (.istore 7, 2) := by decide +kernel
theorem dX14_utfLength_131 : decode cX14_utfLength 131 = .ok (.iload 7, 2) := by decide +kernel
theorem dX14_utfLength_133 : decode cX14_utfLength 133 = .ok (.iload 5, 2) := by decide +kernel
theorem dX14_utfLength_135 : decode cX14_utfLength 135 = .ok (.if_icmp .ge 46, 3) := by decide +kernel
theorem dX14_utfLength_138 : decode cX14_utfLength 138 = .ok (.aload_n 1, 1) := by decide +kernel
theorem dX14_utfLength_139 : decode cX14_utfLength 139 = .ok (.iload_n 2, 1) := by decide +kernel
theorem dX14_utfLength_140 : decode cX14_utfLength 140 = .ok (.iload 7, 2) := by decide +kernel
theorem dX14_utfLength_142 : decode cX14_utfLength 142 = .ok (.iadd, 1) := by decide +kernel
theorem dX14_utfLength_143 : decode cX14_utfLength 143 = .ok (.iaload, 1) := by decide +kernel
theorem dX14_utfLength_144 : decode cX14_utfLength 144 = .ok (.sipush 128, 3) := by decide +kernel
theorem dX14_utfLength_147 : decode cX14_utfLength 147 = .ok (.sipush 191, 3) := by decide +kernel
theorem dX14_utfLength_150 : decode cX14_utfLength 150 = .ok (.invokestatic 181, 3) := by decide +kernel
theorem dX14_utfLength_153 : decode cX14_utfLength 153 = .ok (.ifCond .ne 5, 3) := by decide +kernel
theorem dX14_utfLength_156 : decode cX14_utfLength 156 = .ok (.iconst 0, 1) := by decide +kernel
theorem dX14_utfLength_157 : decode cX14_utfLength 157 = .ok (.ireturn, 1) := by decide +kernel
theorem dX14_utfLength_158 : decode cX14_utfLength 158 = .ok (.iload 6, 2) := by decide +kernel
theorem dX14_utfLength_160 : decode cX14_utfLength 160 = .ok (.bipush 6, 2) := by decide +kernel
theorem dX14_utfLength_162 : decode cX14_utfLength 162 = .ok (.ishl, 1) := by decide +kernel
theorem dX14_utfLength_163 : decode cX14_utfLength 163 = .ok (.aload_n 1, 1) := by decide +kernel
theorem dX14_utfLength_164 : decode cX14_utfLength 164 = .ok (.iload_n 2, 1) := by decide +kernel
theorem dX14_utfLength_165 : decode cX14_utfLength 165 = .ok (.iload 7, 2) := by decide +kernel
theorem dX14_utfLength_167 : decode cX14_utfLength 167 = .ok (.iadd, 1) := by decide +kernel
theorem dX14_utfLength_168 : decode cX14_utfLength 168 = .ok (.iaload, 1) := by decide +kernel
theorem dX14_utfLength_169 : decode cX14_utfLength 169 = .ok (.bipush 63, 2) := by decide +kernel
theorem dX14_utfLength_171 : decode cX14_utfLength 171 = .ok (.iand, 1) := by decide +kernel
theorem dX14_utfLength_172 : decode cX14_utfLength 172 = .ok (.ior, 1) := by decide +kernel
theorem dX14_utfLength_173 : decode cX14_utfLength 173 = .ok (.istore 6, 2) := by decide +kernel
theorem dX14_utfLength_175 : decode cX14_utfLength 175 = .ok (.iinc 7 1, 3) := by decide +kernel
theorem dX14_utfLength_178 : decode cX14_utfLength 178 = .ok (.goto (-47), 3) := by decide +kernel
theorem dX14_utfLength_181 : decode cX14_utfLength 181 = .ok (.iload 5, 2) := by decide +kernel
theorem dX14_utfLength_183 : decode cX14_utfLength 183 = .ok (.iconst 3, 1) := by decide +kernel
theorem dX14_utfLength_184 : decode cX14_utfLength 184 = .ok (.if_icmp .ne 11, 3) := by decide +kernel
theorem dX14_utfLength_187 : decode cX14_utfLength 187 = .ok (.iload 6, 2) := by decide +kernel
theorem dX14_utfLength_189 : decode cX14_utfLength 189 = .ok (.sipush 2048, 3) := by decide +kernel
theorem dX14_utfLength_192 : decode cX14_utfLength 192 = .ok (.if_icmp .lt 36, 3) := by decide +kernel
theorem dX14_utfLength_195 : decode cX14_utfLength 195 = .ok (.iload 5, 2) := by decide +kernel
theorem dX14_utfLength_197 : decode cX14_utfLength 197 = .ok (.iconst 4, 1) := by decide +kernel
theorem dX14_utfLength_198 : decode cX14_utfLength 198 = .ok (.if_icmp .ne 10, 3) := by decide +kernel
theorem dX14_utfLength_201 : decode cX14_utfLength 201 = .ok (.iload 6, 2) := by decide +kernel
theorem dX14_utfLength_203 : decode cX14_utfLength 203 = .ok (.ldc 197, 2) := by decide +kernel
theorem dX14_utfLength_205 : decode cX14_utfLength 205 = .ok (.if_icmp .lt 23, 3) := by decide +kernel
theorem dX14_utfLength_208 : decode cX14_utfLength 208 = .ok (.iload 6, 2) := by decide +kernel
theorem dX14_utfLength_210 : decode cX14_utfLength 210 = .ok (.ldc 179, 2) := by decide +kernel
theorem dX14_utfLength_212 : decode cX14_utfLength 212 = .ok (.ldc 186, 2) := by decide +kernel
theorem dX14_utfLength_214 : decode cX14_utfLength 214 = .ok (.invokestatic 181, 3) := by decide +kernel
theorem dX14_utfLength_217 : decode cX14_utfLength 217 = .ok (.ifCond .ne 11, 3) := by decide +kernel
theorem dX14_utfLength_220 : decode cX14_utfLength 220 = .ok (.iload 6, 2) := by decide +kernel
theorem dX14_utfLength_222 : decode cX14_utfLength 222 = .ok (.ldc_w 360, 3) := by decide +kernel
theorem dX14_utfLength_225 : decode cX14_utfLength 225 = .ok (.if_icmp .le 5, 3) := by decide +kernel
theorem dX14_utfLength_228 : decode cX14_utfLength 228 = .ok (.iconst 0, 1) := by decide +kernel
theorem dX14_utfLength_229 : decode cX14_utfLength 229 = .ok (.ireturn, 1) := by decide +kernel
theorem dX14_utfLength_230 : decode cX14_utfLength 230 = .ok (.aload_n 0, 1) := by decide +kernel
theorem dX14_utfLength_231 : decode cX14_utfLength 231 = .ok (.iload 6, 2) := by decide +kernel
theorem dX14_utfLength_233 : decode cX14_utfLength 233 = .ok (.putfield 357, 3) := by decide +kernel
theorem dX14_utfLength_236 : decode cX14_utfLength 236 = .ok (.iload 5, 2) := by decide +kernel
theorem dX14_utfLength_238 : decode cX14_utfLength 238 = .ok (.ireturn, 1) := by decide +kernel
def EX14_utfLength : List (Nat × Nat) := [(16, 33)]
set_option maxHeartbeats 4000000 in
set_option maxRecDepth 20000 in
theorem uX14_utfLength (l : Launch) (dC : Nat → ClassId) (dI : Nat → Nat → Nat) (ca : Nat → ClassId) (base : Nat) (B : jF) (hB : jBok B) (hAp : jAp (dC, dI)) (hB16 : ∀ n G a H, B 16 n G a H ↔ jOb (dC, dI) 16 74 (F16 n G) a H) (hB110 : ∀ n G a H, B 110 n G a H ↔ jAr (dC, dI) (ca 1) (fun j z => 0 ≤ z.toInt ∧ z.toInt ≤ 255) n a H) (G0 : jT) (H0 : Heap) (r0 : Nat) (r1 : Nat) (a2 : Int32) (a3 : Int32) (n1 : Nat) : Met l yX14_utfLength (jw yX14_utfLength cX14_utfLength 8 (some .int)) ({ frames := 1, cells := 0, slots := 0, locals := 22 }) (va_Pc [.ref r0, .ref r1, .int a2, .int a3] (fun U => U.heap = H0 ∧ jX B base G0 [] H0 ∧ jG dC dI ca base U ∧ G0 r1 = some (110, n1) ∧ G0 r0 = some (16, 0) ∧ jP (dC, dI) G0 H0 [] ∧ 0 ≤ a2.toInt ∧ a2.toInt < a3.toInt ∧ a3.toInt ≤ n1 ∧ n1 ≤ 4000)) (va_Qi (S := Int32) (fun r u => (r.toInt = 0 ∨ (1 ≤ r.toInt ∧ r.toInt ≤ 4 ∧ a2.toInt + r.toInt ≤ a3.toInt ∧ (u.toInt ≤ 65535 ∨ 2 ≤ r.toInt)))) (fun u t => jRt (dC, dI) B base G0 EX14_utfLength H0 [(r0, 16, 33, .int u)] t.heap) (jA base)) 0 0 (jA base) := by
  refine Met.ofW (cc := cX14_utfLength) (maxL := 8) (ret := (some .int)) (by decide) rfl ?_
  intro p e s m args below meth c s₁ Bd hml hv
  obtain ⟨rfl, hH0, hX, hG, hg_r1, hg_r0, hP0, hp0, hp1, hp2, hp3⟩ := hv
  have hK := hG.1
  have hx := Bd.exec
  have hb := Bd.bytes
  have hr := Bd.returns
  have hts := atoms_spec (ws := (jw yX14_utfLength cX14_utfLength 8 (some .int))) Bd.pre
  have htw : ∀ w ∈ jWl, w.before _ s = true := fun w h => hts w (List.mem_cons_of_mem _ h)
  have hown : s.vm.findClass RX14 = some m.cls := findClass_of_methodNamed Bd.named
  have hlocks := Bd.notSynchronized
  obtain ⟨Q, hQ⟩ : ∃ Q, Q = MQ below (va_Qi (S := Int32) (fun r u => (r.toInt = 0 ∨ (1 ≤ r.toInt ∧ r.toInt ≤ 4 ∧ a2.toInt + r.toInt ≤ a3.toInt ∧ (u.toInt ≤ 65535 ∨ 2 ≤ r.toInt)))) (fun u t => jRt (dC, dI) B base G0 EX14_utfLength H0 [(r0, 16, 33, .int u)] t.heap) (jA base)) ([.ref r0, .ref r1, .int a2, .int a3] : List Value).toArray s 0 0 (jA base) := ⟨_, rfl⟩
  rw [← hQ]
  have hl := lv_entry ([.ref r0, .ref r1, .int a2, .int a3]) (n := 8) (Nat.le_of_ble_eq_true rfl)
  rw [lg_entry_eq]
  generalize (lg_sl ([.ref r0, .ref r1, .int a2, .int a3]) ++ List.replicate (8 - (lg_sl ([.ref r0, .ref r1, .int a2, .int a3])).length) Slot.unset).toArray = ls at hl ⊢
  have hl : lv_has ls 8 [(0, .ref r0), (1, .ref r1), (2, .int a2), (3, .int a3)] := hl
  generalize hR : (headSpec (jw yX14_utfLength cX14_utfLength 8 (some .int)) ({ frames := 1, cells := 0, slots := 0, locals := 22 })).room = R
  subst hH0
  have hh : jSt (dC, dI) B base G0 G0 EX14_utfLength s.heap 0 0 [] [] [] s.heap [] := jSt.start hX hP0 jMc.nil jIs.nil
  clear hX hP0
  have hk0 : (0 : Int32).toInt = 0 := by decide
  have hk1 : (1 : Int32).toInt = 1 := by decide
  have hk2 : (2 : Int32).toInt = 2 := by decide
  have hk3 : (3 : Int32).toInt = 3 := by decide
  have hk4 : (4 : Int32).toInt = 4 := by decide
  have hk6 : (6 : Int32).toInt = 6 := by decide
  have hk7 : (7 : Int32).toInt = 7 := by decide
  have hk15 : (15 : Int32).toInt = 15 := by decide
  have hk31 : (31 : Int32).toInt = 31 := by decide
  have hk63 : (63 : Int32).toInt = 63 := by decide
  have hk128 : (128 : Int32).toInt = 128 := by decide
  have hk191 : (191 : Int32).toInt = 191 := by decide
  have hk194 : (194 : Int32).toInt = 194 := by decide
  have hk223 : (223 : Int32).toInt = 223 := by decide
  have hk224 : (224 : Int32).toInt = 224 := by decide
  have hk239 : (239 : Int32).toInt = 239 := by decide
  have hk240 : (240 : Int32).toInt = 240 := by decide
  have hk244 : (244 : Int32).toInt = 244 := by decide
  have hk2048 : (2048 : Int32).toInt = 2048 := by decide
  have hk55296 : (55296 : Int32).toInt = 55296 := by decide
  have hk57343 : (57343 : Int32).toInt = 57343 := by decide
  have hk65536 : (65536 : Int32).toInt = 65536 := by decide
  have hk1114111 : (1114111 : Int32).toInt = 1114111 := by decide
  have hly_16_33 := htw (u_lay RX14 TX14 33) (jWc_wsX140 _ (u_in_lay (by decide)))
  have hlk_357 := (htw (.fieldLink RX14 357 "ProofServerModel" "utfChar" "I") (jWr_51 _ (List.mem_of_getElem? (i := 11) rfl)))
  have hcs_197 := htw (.constant RX14 197 65536) (jWr_52 _ (List.mem_of_getElem? (i := 2) rfl))
  have hcs_179 := htw (.constant RX14 179 55296) (jWr_51 _ (List.mem_of_getElem? (i := 18) rfl))
  have hcs_186 := htw (.constant RX14 186 57343) (jWr_51 _ (List.mem_of_getElem? (i := 17) rfl))
  have hcs_360 := htw (.constant RX14 360 1114111) (jWr_52 _ (List.mem_of_getElem? (i := 18) rfl))
  have hrg_a2 := jb_rng a2
  have hrg_a3 := jb_rng a3
  refine lv_aload_n hx hb dX14_utfLength_0 rfl (lv_at hl 1 rfl) ?_
  refine lv_iload_n hx hb dX14_utfLength_1 rfl (lv_at hl 2 rfl) ?_
  refine j7_iald hx hb hK hh hB110 1 rfl (by decide) hg_r1 (x := a2.toInt) (rfl) (by omega) dX14_utfLength_2 (fun z_1 (hz_1 : 0 ≤ z_1.toInt ∧ z_1.toInt ≤ 255) => ?_)
  refine lv_istore (lv' := [(4, .int z_1), (0, .ref r0), (1, .ref r1), (2, .int a2), (3, .int a3)]) hx hb dX14_utfLength_3 hl (by decide) rfl (fun ls hl => ?_)
  refine lv_aload_n hx hb dX14_utfLength_5 rfl (lv_at hl 1 rfl) ?_
  refine lv_iload hx hb dX14_utfLength_6 (lv_at hl 0 rfl) ?_
  refine j7_put hx hb hown hK hh hB hAp hB16 (C := RX14) (T := TX14) (N := 74) rfl (by decide) hg_r0 (i := 33) (by decide) hly_16_33 rfl hlk_357 rfl (ty := .int) (v := .int z_1) (by decide +kernel) rfl rfl (⟨_, rfl⟩) rfl (L1 := []) [] rfl rfl rfl dX14_utfLength_8 (fun H_2 locs_2 hh_2 => ?_)
  clear hh
  refine lv_iload hx hb dX14_utfLength_11 (lv_at hl 0 rfl) ?_
  refine lv_sipush (v := 128) hx hb dX14_utfLength_13 (by decide) ?_
  refine lv_icmp_ge (tgt := 21) hx hb dX14_utfLength_16 (by decide) (fun c_3 => ?_) (fun c_3 => ?_)
  · skip
    have c_3' : z_1.toInt ≥ 128 := jb_ge (rfl) ((by decide)) c_3
    refine lv_iload hx hb dX14_utfLength_21 (lv_at hl 0 rfl) ?_
    refine lv_sipush (v := 194) hx hb dX14_utfLength_23 (by decide) ?_
    refine lv_sipush (v := 223) hx hb dX14_utfLength_26 (by decide) ?_
    refine va_calli (A0 := jA base) (H0 := s.heap) (va_runS (As := [.int z_1, .int 194, .int 223]) (rest := []) ⟨hx, hb, hml, hown, hts⟩ (uX14_in l dC dI ca base B hB hAp G0 H_2 z_1 194 223) (va_cwS 3 hts (jgS (jWr_48 _ (List.mem_of_getElem? (i := 10) rfl)) (jWr_48 _ (List.mem_of_getElem? (i := 11) rfl)) (jWr_1 _ (List.mem_of_getElem? (i := 5) rfl)) (jWr_48 _ (List.mem_of_getElem? (i := 12) rfl))) rfl rfl rfl (by decide +kernel) ⟨by rw [← hR]; exact Nat.le_of_ble_eq_true rfl, by rw [← hR]; exact Nat.le_of_ble_eq_true rfl⟩) ⟨fun a U g mk q => by obtain ⟨q0, q1, q2, qK, q10, q11⟩ := q; exact ⟨q0, q1, q2, jG.calling g mk a qK, q10, q11⟩, fun U hU hW => ⟨rfl, hU, hh_2.2.1, hG.step hW hU hh_2.1, jP.nil, trivial⟩⟩ rfl rfl hl.1 rfl (lv_room (Nat.le_of_ble_eq_true rfl)) dX14_utfLength_29 ⟨Nat.zero_le _, Nat.zero_le _⟩) hh_2.1 (fun q _ h => h) (fun q h => h) (fun r_5 u_4 t_4 H_4 locs_4 ht_4 hvm_4 hr_5 hb_4 hz_4 hk_4 hS_4 => ?_)
    rw [ht_4] at hb_4
    obtain ⟨hb_41, hb_42, hb_43, hb_44, hb_45⟩ := hb_4
    have hh_4 : jSt (dC, dI) B base G0 G0 EX14_utfLength s.heap 0 0 [(r0, 16, 33, .int z_1)] [] [] H_4 locs_4 := ((hh_2.call hb_41 hb_42 hb_43 hb_44 hS_4 rfl (L1 := [(r0, 16, 33, .int z_1)]) [0] rfl rfl (M1 := []) [] rfl rfl (I1 := []) [] rfl rfl).more hb_45)
    clear hh_2 ht_4 hvm_4 hz_4 hk_4 hS_4 hb_41 hb_42 hb_43 hb_44 hb_45
    obtain ⟨hr_5b, hr_5p⟩ := hr_5
    obtain ⟨hr_5p_0, hr_5p_1, hr_5p_2⟩ := hr_5p
    have hr_5' := jb_01 hr_5b
    have C76 : ∀ (w0_6 : Int32) (H_6 : Heap) (locs_6 : List Loc), jSt (dC, dI) B base G0 G0 EX14_utfLength s.heap 0 0 [(r0, 16, 33, .int z_1)] [] [] H_6 locs_6 → (0 ≤ w0_6.toInt ∧ w0_6.toInt ≤ 4 ∧ w0_6.toInt ≠ 1) → ∀ ls : Array Slot, lv_has ls 8 [(0, .ref r0), (1, .ref r1), (2, .int a2), (3, .int a3), (4, .int z_1)] → W p l e R s m ([.ref r0, .ref r1, .int a2, .int a3] : List Value).toArray below meth c H_6 locs_6 0 0 Q (F0 m 76 ls [.int w0_6]) := by
      intro w0_6 H_6 locs_6 hh_6  hi_6 ls hl
      obtain ⟨hi_6_0, hi_6_1, hi_6_2⟩ := hi_6
      refine lv_istore (lv' := [(5, .int w0_6), (0, .ref r0), (1, .ref r1), (2, .int a2), (3, .int a3), (4, .int z_1)]) hx hb dX14_utfLength_76 hl (by decide) rfl (fun ls hl => ?_)
      refine lv_iload hx hb dX14_utfLength_78 (lv_at hl 0 rfl) ?_
      refine lv_if_eq (tgt := 91) hx hb dX14_utfLength_80 (by decide) (fun c_7 => ?_) (fun c_7 => ?_)
      · skip
        have c_7' : w0_6.toInt = 0 := jb_eq (rfl) ((by decide)) c_7
        refine lv_iconst (v := 0) hx hb dX14_utfLength_91 (by decide) ?_
        rw [hQ]
        exact W.iret (v := 0) hx hb hr (fun t ht hW => ⟨⟨0, z_1, rfl, by first | omega | rfl | assumption | decide | exact Or.inl rfl | exact Or.inr rfl | (simp only; omega), hh_6.rt (M1 := [(r0, 16, 33, .int z_1)]) [0] rfl ht⟩, by rw [ht]; try exact hh_6.1.1, fun q h9 hq => by rw [ht]; try exact hh_6.1.2.1 q h9 hq⟩) hh_6.1.2.2 dX14_utfLength_92
      · skip
        have c_7' : w0_6.toInt ≠ 0 := jb_eq_n (rfl) ((by decide)) c_7
        refine lv_iload_n hx hb dX14_utfLength_83 rfl (lv_at hl 3 rfl) ?_
        refine lv_iload hx hb dX14_utfLength_84 (lv_at hl 0 rfl) ?_
        refine lv_iadd hx hb dX14_utfLength_86 ?_
        refine lv_topi (fun z_8 ez_8 => ?_)
        have hz_8 : z_8.toInt = a2.toInt + w0_6.toInt := by rw [ez_8]; exact jb_iadd2 (rfl) (rfl) (by omega)
        refine lv_iload_n hx hb dX14_utfLength_87 rfl (lv_at hl 4 rfl) ?_
        refine lv_icmp_le (tgt := 93) hx hb dX14_utfLength_88 (by decide) (fun c_9 => ?_) (fun c_9 => ?_)
        · skip
          have c_9' : z_8.toInt ≤ a3.toInt := jb_le (rfl) (rfl) c_9
          refine lv_iload hx hb dX14_utfLength_93 (lv_at hl 0 rfl) ?_
          refine lv_iconst (v := 2) hx hb dX14_utfLength_95 (by decide) ?_
          have C126 : ∀ (w0_10 : Int32) (H_10 : Heap) (locs_10 : List Loc), jSt (dC, dI) B base G0 G0 EX14_utfLength s.heap 0 0 [(r0, 16, 33, .int z_1)] [] [] H_10 locs_10 → (True) → ∀ ls : Array Slot, lv_has ls 8 [(0, .ref r0), (1, .ref r1), (2, .int a2), (3, .int a3), (4, .int z_1), (5, .int w0_6)] → W p l e R s m ([.ref r0, .ref r1, .int a2, .int a3] : List Value).toArray below meth c H_10 locs_10 0 0 Q (F0 m 126 ls [.int w0_10]) := by
            intro w0_10 H_10 locs_10 hh_10  hi_10 ls hl
            refine lv_istore (lv' := [(6, .int w0_10), (0, .ref r0), (1, .ref r1), (2, .int a2), (3, .int a3), (4, .int z_1), (5, .int w0_6)]) hx hb dX14_utfLength_126 hl (by decide) rfl (fun ls hl => ?_)
            refine lv_iconst (v := 1) hx hb dX14_utfLength_128 (by decide) ?_
            refine lv_istore (lv' := [(7, .int 1), (6, .int w0_10), (0, .ref r0), (1, .ref r1), (2, .int a2), (3, .int a3), (4, .int z_1), (5, .int w0_6)]) hx hb dX14_utfLength_129 hl (by decide) rfl (fun ls hl => ?_)
            have L131 : ∀ (N : Nat) (v6_11 : Int32) (v7_11 : Int32) (H_11 : Heap) (locs_11 : List Loc), jSt (dC, dI) B base G0 G0 EX14_utfLength s.heap 0 0 [(r0, 16, 33, .int z_1)] [] [] H_11 locs_11 → (1 ≤ v7_11.toInt ∧ v7_11.toInt ≤ w0_6.toInt) → (w0_6.toInt - v7_11.toInt : Int) < N → ∀ ls : Array Slot, lv_has ls 8 [(0, .ref r0), (1, .ref r1), (2, .int a2), (3, .int a3), (4, .int z_1), (5, .int w0_6), (6, .int v6_11), (7, .int v7_11)] → W p l e R s m ([.ref r0, .ref r1, .int a2, .int a3] : List Value).toArray below meth c H_11 locs_11 0 0 Q (F0 m 131 ls []) := by
              intro N
              induction N with
              | zero => intro v6_11 v7_11 H_11 locs_11 hh_11  hi_11 hm; exact absurd hm (by omega)
              | succ N L131 =>
                intro v6_11 v7_11 H_11 locs_11 hh_11  hi_11 hm_11 ls hl
                obtain ⟨hi_11_0, hi_11_1⟩ := hi_11
                refine lv_iload hx hb dX14_utfLength_131 (lv_at hl 7 rfl) ?_
                refine lv_iload hx hb dX14_utfLength_133 (lv_at hl 5 rfl) ?_
                refine lv_icmp_ge (tgt := 181) hx hb dX14_utfLength_135 (by decide) (fun c_12 => ?_) (fun c_12 => ?_)
                · skip
                  have c_12' : v7_11.toInt ≥ w0_6.toInt := jb_ge (rfl) (rfl) c_12
                  refine lv_iload hx hb dX14_utfLength_181 (lv_at hl 5 rfl) ?_
                  refine lv_iconst (v := 3) hx hb dX14_utfLength_183 (by decide) ?_
                  refine lv_icmp_ne (tgt := 195) hx hb dX14_utfLength_184 (by decide) (fun c_13 => ?_) (fun c_13 => ?_)
                  · skip
                    have c_13' : w0_6.toInt ≠ 3 := jb_ne (rfl) ((by decide)) c_13
                    refine lv_iload hx hb dX14_utfLength_195 (lv_at hl 5 rfl) ?_
                    refine lv_iconst (v := 4) hx hb dX14_utfLength_197 (by decide) ?_
                    refine lv_icmp_ne (tgt := 208) hx hb dX14_utfLength_198 (by decide) (fun c_14 => ?_) (fun c_14 => ?_)
                    · skip
                      have c_14' : w0_6.toInt ≠ 4 := jb_ne (rfl) ((by decide)) c_14
                      refine lv_iload hx hb dX14_utfLength_208 (lv_at hl 6 rfl) ?_
                      refine lv_ldc hx hb hown hcs_179 dX14_utfLength_210 ?_
                      refine lv_ldc hx hb hown hcs_186 dX14_utfLength_212 ?_
                      refine va_calli (A0 := jA base) (H0 := s.heap) (va_runS (As := [.int v6_11, .int 55296, .int 57343]) (rest := []) ⟨hx, hb, hml, hown, hts⟩ (uX14_in l dC dI ca base B hB hAp G0 H_11 v6_11 55296 57343) (va_cwS 3 hts (jgS (jWr_48 _ (List.mem_of_getElem? (i := 10) rfl)) (jWr_48 _ (List.mem_of_getElem? (i := 11) rfl)) (jWr_1 _ (List.mem_of_getElem? (i := 5) rfl)) (jWr_48 _ (List.mem_of_getElem? (i := 12) rfl))) rfl rfl rfl (by decide +kernel) ⟨by rw [← hR]; exact Nat.le_of_ble_eq_true rfl, by rw [← hR]; exact Nat.le_of_ble_eq_true rfl⟩) ⟨fun a U g mk q => by obtain ⟨q0, q1, q2, qK, q10, q11⟩ := q; exact ⟨q0, q1, q2, jG.calling g mk a qK, q10, q11⟩, fun U hU hW => ⟨rfl, hU, hh_11.2.1, hG.step hW hU hh_11.1, jP.nil, trivial⟩⟩ rfl rfl hl.1 rfl (lv_room (Nat.le_of_ble_eq_true rfl)) dX14_utfLength_214 ⟨Nat.zero_le _, Nat.zero_le _⟩) hh_11.1 (fun q _ h => h) (fun q h => h) (fun r_16 u_15 t_15 H_15 locs_15 ht_15 hvm_15 hr_16 hb_15 hz_15 hk_15 hS_15 => ?_)
                      rw [ht_15] at hb_15
                      obtain ⟨hb_151, hb_152, hb_153, hb_154, hb_155⟩ := hb_15
                      have hh_15 : jSt (dC, dI) B base G0 G0 EX14_utfLength s.heap 0 0 [(r0, 16, 33, .int z_1)] [] [] H_15 locs_15 := ((hh_11.call hb_151 hb_152 hb_153 hb_154 hS_15 rfl (L1 := [(r0, 16, 33, .int z_1)]) [0] rfl rfl (M1 := []) [] rfl rfl (I1 := []) [] rfl rfl).more hb_155)
                      clear hh_11 ht_15 hvm_15 hz_15 hk_15 hS_15 hb_151 hb_152 hb_153 hb_154 hb_155
                      obtain ⟨hr_16b, hr_16p⟩ := hr_16
                      obtain ⟨hr_16p_0, hr_16p_1, hr_16p_2⟩ := hr_16p
                      have hr_16' := jb_01 hr_16b
                      refine lv_if_ne (tgt := 228) hx hb dX14_utfLength_217 (by decide) (fun c_17 => ?_) (fun c_17 => ?_)
                      · skip
                        have c_17' : r_16.toInt ≠ 0 := jb_ne (rfl) ((by decide)) c_17
                        refine lv_iconst (v := 0) hx hb dX14_utfLength_228 (by decide) ?_
                        rw [hQ]
                        exact W.iret (v := 0) hx hb hr (fun t ht hW => ⟨⟨0, z_1, rfl, by first | omega | rfl | assumption | decide | exact Or.inl rfl | exact Or.inr rfl | (simp only; omega), hh_15.rt (M1 := [(r0, 16, 33, .int z_1)]) [0] rfl ht⟩, by rw [ht]; try exact hh_15.1.1, fun q h9 hq => by rw [ht]; try exact hh_15.1.2.1 q h9 hq⟩) hh_15.1.2.2 dX14_utfLength_229
                      · skip
                        have c_17' : r_16.toInt = 0 := jb_ne_n (rfl) ((by decide)) c_17
                        refine lv_iload hx hb dX14_utfLength_220 (lv_at hl 6 rfl) ?_
                        refine lv_ldcw hx hb hown hcs_360 dX14_utfLength_222 ?_
                        refine lv_icmp_le (tgt := 230) hx hb dX14_utfLength_225 (by decide) (fun c_18 => ?_) (fun c_18 => ?_)
                        · skip
                          have c_18' : v6_11.toInt ≤ 1114111 := jb_le (rfl) ((by decide)) c_18
                          refine lv_aload_n hx hb dX14_utfLength_230 rfl (lv_at hl 0 rfl) ?_
                          refine lv_iload hx hb dX14_utfLength_231 (lv_at hl 6 rfl) ?_
                          refine j7_put hx hb hown hK hh_15 hB hAp hB16 (C := RX14) (T := TX14) (N := 74) rfl (by decide) hg_r0 (i := 33) (by decide) hly_16_33 rfl hlk_357 rfl (ty := .int) (v := .int v6_11) (by decide +kernel) rfl rfl (⟨_, rfl⟩) rfl (L1 := []) [] rfl rfl rfl dX14_utfLength_233 (fun H_19 locs_19 hh_19 => ?_)
                          clear hh_15
                          refine lv_iload hx hb dX14_utfLength_236 (lv_at hl 5 rfl) ?_
                          rw [hQ]
                          exact W.iret (v := w0_6) hx hb hr (fun t ht hW => ⟨⟨w0_6, v6_11, rfl, by first | omega | rfl | assumption | decide | exact Or.inl rfl | exact Or.inr rfl | (simp only; omega), hh_19.rt (M1 := [(r0, 16, 33, .int v6_11)]) [0] rfl ht⟩, by rw [ht]; try exact hh_19.1.1, fun q h9 hq => by rw [ht]; try exact hh_19.1.2.1 q h9 hq⟩) hh_19.1.2.2 dX14_utfLength_238
                        · skip
                          have c_18' : v6_11.toInt > 1114111 := jb_le_n (rfl) ((by decide)) c_18
                          refine lv_iconst (v := 0) hx hb dX14_utfLength_228 (by decide) ?_
                          rw [hQ]
                          exact W.iret (v := 0) hx hb hr (fun t ht hW => ⟨⟨0, z_1, rfl, by first | omega | rfl | assumption | decide | exact Or.inl rfl | exact Or.inr rfl | (simp only; omega), hh_15.rt (M1 := [(r0, 16, 33, .int z_1)]) [0] rfl ht⟩, by rw [ht]; try exact hh_15.1.1, fun q h9 hq => by rw [ht]; try exact hh_15.1.2.1 q h9 hq⟩) hh_15.1.2.2 dX14_utfLength_229
                    · skip
                      have c_14' : w0_6.toInt = 4 := jb_ne_n (rfl) ((by decide)) c_14
                      refine lv_iload hx hb dX14_utfLength_201 (lv_at hl 6 rfl) ?_
                      refine lv_ldc hx hb hown hcs_197 dX14_utfLength_203 ?_
                      refine lv_icmp_lt (tgt := 228) hx hb dX14_utfLength_205 (by decide) (fun c_20 => ?_) (fun c_20 => ?_)
                      · skip
                        have c_20' : v6_11.toInt < 65536 := jb_lt (rfl) ((by decide)) c_20
                        refine lv_iconst (v := 0) hx hb dX14_utfLength_228 (by decide) ?_
                        rw [hQ]
                        exact W.iret (v := 0) hx hb hr (fun t ht hW => ⟨⟨0, z_1, rfl, by first | omega | rfl | assumption | decide | exact Or.inl rfl | exact Or.inr rfl | (simp only; omega), hh_11.rt (M1 := [(r0, 16, 33, .int z_1)]) [0] rfl ht⟩, by rw [ht]; try exact hh_11.1.1, fun q h9 hq => by rw [ht]; try exact hh_11.1.2.1 q h9 hq⟩) hh_11.1.2.2 dX14_utfLength_229
                      · skip
                        have c_20' : v6_11.toInt ≥ 65536 := jb_lt_n (rfl) ((by decide)) c_20
                        refine lv_iload hx hb dX14_utfLength_208 (lv_at hl 6 rfl) ?_
                        refine lv_ldc hx hb hown hcs_179 dX14_utfLength_210 ?_
                        refine lv_ldc hx hb hown hcs_186 dX14_utfLength_212 ?_
                        refine va_calli (A0 := jA base) (H0 := s.heap) (va_runS (As := [.int v6_11, .int 55296, .int 57343]) (rest := []) ⟨hx, hb, hml, hown, hts⟩ (uX14_in l dC dI ca base B hB hAp G0 H_11 v6_11 55296 57343) (va_cwS 3 hts (jgS (jWr_48 _ (List.mem_of_getElem? (i := 10) rfl)) (jWr_48 _ (List.mem_of_getElem? (i := 11) rfl)) (jWr_1 _ (List.mem_of_getElem? (i := 5) rfl)) (jWr_48 _ (List.mem_of_getElem? (i := 12) rfl))) rfl rfl rfl (by decide +kernel) ⟨by rw [← hR]; exact Nat.le_of_ble_eq_true rfl, by rw [← hR]; exact Nat.le_of_ble_eq_true rfl⟩) ⟨fun a U g mk q => by obtain ⟨q0, q1, q2, qK, q10, q11⟩ := q; exact ⟨q0, q1, q2, jG.calling g mk a qK, q10, q11⟩, fun U hU hW => ⟨rfl, hU, hh_11.2.1, hG.step hW hU hh_11.1, jP.nil, trivial⟩⟩ rfl rfl hl.1 rfl (lv_room (Nat.le_of_ble_eq_true rfl)) dX14_utfLength_214 ⟨Nat.zero_le _, Nat.zero_le _⟩) hh_11.1 (fun q _ h => h) (fun q h => h) (fun r_22 u_21 t_21 H_21 locs_21 ht_21 hvm_21 hr_22 hb_21 hz_21 hk_21 hS_21 => ?_)
                        rw [ht_21] at hb_21
                        obtain ⟨hb_211, hb_212, hb_213, hb_214, hb_215⟩ := hb_21
                        have hh_21 : jSt (dC, dI) B base G0 G0 EX14_utfLength s.heap 0 0 [(r0, 16, 33, .int z_1)] [] [] H_21 locs_21 := ((hh_11.call hb_211 hb_212 hb_213 hb_214 hS_21 rfl (L1 := [(r0, 16, 33, .int z_1)]) [0] rfl rfl (M1 := []) [] rfl rfl (I1 := []) [] rfl rfl).more hb_215)
                        clear hh_11 ht_21 hvm_21 hz_21 hk_21 hS_21 hb_211 hb_212 hb_213 hb_214 hb_215
                        obtain ⟨hr_22b, hr_22p⟩ := hr_22
                        obtain ⟨hr_22p_0, hr_22p_1, hr_22p_2⟩ := hr_22p
                        have hr_22' := jb_01 hr_22b
                        refine lv_if_ne (tgt := 228) hx hb dX14_utfLength_217 (by decide) (fun c_23 => ?_) (fun c_23 => ?_)
                        · skip
                          have c_23' : r_22.toInt ≠ 0 := jb_ne (rfl) ((by decide)) c_23
                          refine lv_iconst (v := 0) hx hb dX14_utfLength_228 (by decide) ?_
                          rw [hQ]
                          exact W.iret (v := 0) hx hb hr (fun t ht hW => ⟨⟨0, z_1, rfl, by first | omega | rfl | assumption | decide | exact Or.inl rfl | exact Or.inr rfl | (simp only; omega), hh_21.rt (M1 := [(r0, 16, 33, .int z_1)]) [0] rfl ht⟩, by rw [ht]; try exact hh_21.1.1, fun q h9 hq => by rw [ht]; try exact hh_21.1.2.1 q h9 hq⟩) hh_21.1.2.2 dX14_utfLength_229
                        · skip
                          have c_23' : r_22.toInt = 0 := jb_ne_n (rfl) ((by decide)) c_23
                          refine lv_iload hx hb dX14_utfLength_220 (lv_at hl 6 rfl) ?_
                          refine lv_ldcw hx hb hown hcs_360 dX14_utfLength_222 ?_
                          refine lv_icmp_le (tgt := 230) hx hb dX14_utfLength_225 (by decide) (fun c_24 => ?_) (fun c_24 => ?_)
                          · skip
                            have c_24' : v6_11.toInt ≤ 1114111 := jb_le (rfl) ((by decide)) c_24
                            refine lv_aload_n hx hb dX14_utfLength_230 rfl (lv_at hl 0 rfl) ?_
                            refine lv_iload hx hb dX14_utfLength_231 (lv_at hl 6 rfl) ?_
                            refine j7_put hx hb hown hK hh_21 hB hAp hB16 (C := RX14) (T := TX14) (N := 74) rfl (by decide) hg_r0 (i := 33) (by decide) hly_16_33 rfl hlk_357 rfl (ty := .int) (v := .int v6_11) (by decide +kernel) rfl rfl (⟨_, rfl⟩) rfl (L1 := []) [] rfl rfl rfl dX14_utfLength_233 (fun H_25 locs_25 hh_25 => ?_)
                            clear hh_21
                            refine lv_iload hx hb dX14_utfLength_236 (lv_at hl 5 rfl) ?_
                            rw [hQ]
                            exact W.iret (v := w0_6) hx hb hr (fun t ht hW => ⟨⟨w0_6, v6_11, rfl, by first | omega | rfl | assumption | decide | exact Or.inl rfl | exact Or.inr rfl | (simp only; omega), hh_25.rt (M1 := [(r0, 16, 33, .int v6_11)]) [0] rfl ht⟩, by rw [ht]; try exact hh_25.1.1, fun q h9 hq => by rw [ht]; try exact hh_25.1.2.1 q h9 hq⟩) hh_25.1.2.2 dX14_utfLength_238
                          · skip
                            have c_24' : v6_11.toInt > 1114111 := jb_le_n (rfl) ((by decide)) c_24
                            refine lv_iconst (v := 0) hx hb dX14_utfLength_228 (by decide) ?_
                            rw [hQ]
                            exact W.iret (v := 0) hx hb hr (fun t ht hW => ⟨⟨0, z_1, rfl, by first | omega | rfl | assumption | decide | exact Or.inl rfl | exact Or.inr rfl | (simp only; omega), hh_21.rt (M1 := [(r0, 16, 33, .int z_1)]) [0] rfl ht⟩, by rw [ht]; try exact hh_21.1.1, fun q h9 hq => by rw [ht]; try exact hh_21.1.2.1 q h9 hq⟩) hh_21.1.2.2 dX14_utfLength_229
                  · skip
                    have c_13' : w0_6.toInt = 3 := jb_ne_n (rfl) ((by decide)) c_13
                    refine lv_iload hx hb dX14_utfLength_187 (lv_at hl 6 rfl) ?_
                    refine lv_sipush (v := 2048) hx hb dX14_utfLength_189 (by decide) ?_
                    refine lv_icmp_lt (tgt := 228) hx hb dX14_utfLength_192 (by decide) (fun c_26 => ?_) (fun c_26 => ?_)
                    · skip
                      have c_26' : v6_11.toInt < 2048 := jb_lt (rfl) ((by decide)) c_26
                      refine lv_iconst (v := 0) hx hb dX14_utfLength_228 (by decide) ?_
                      rw [hQ]
                      exact W.iret (v := 0) hx hb hr (fun t ht hW => ⟨⟨0, z_1, rfl, by first | omega | rfl | assumption | decide | exact Or.inl rfl | exact Or.inr rfl | (simp only; omega), hh_11.rt (M1 := [(r0, 16, 33, .int z_1)]) [0] rfl ht⟩, by rw [ht]; try exact hh_11.1.1, fun q h9 hq => by rw [ht]; try exact hh_11.1.2.1 q h9 hq⟩) hh_11.1.2.2 dX14_utfLength_229
                    · skip
                      have c_26' : v6_11.toInt ≥ 2048 := jb_lt_n (rfl) ((by decide)) c_26
                      refine lv_iload hx hb dX14_utfLength_195 (lv_at hl 5 rfl) ?_
                      refine lv_iconst (v := 4) hx hb dX14_utfLength_197 (by decide) ?_
                      refine lv_icmp_ne (tgt := 208) hx hb dX14_utfLength_198 (by decide) (fun c_27 => ?_) (fun c_27 => ?_)
                      · skip
                        have c_27' : w0_6.toInt ≠ 4 := jb_ne (rfl) ((by decide)) c_27
                        refine lv_iload hx hb dX14_utfLength_208 (lv_at hl 6 rfl) ?_
                        refine lv_ldc hx hb hown hcs_179 dX14_utfLength_210 ?_
                        refine lv_ldc hx hb hown hcs_186 dX14_utfLength_212 ?_
                        refine va_calli (A0 := jA base) (H0 := s.heap) (va_runS (As := [.int v6_11, .int 55296, .int 57343]) (rest := []) ⟨hx, hb, hml, hown, hts⟩ (uX14_in l dC dI ca base B hB hAp G0 H_11 v6_11 55296 57343) (va_cwS 3 hts (jgS (jWr_48 _ (List.mem_of_getElem? (i := 10) rfl)) (jWr_48 _ (List.mem_of_getElem? (i := 11) rfl)) (jWr_1 _ (List.mem_of_getElem? (i := 5) rfl)) (jWr_48 _ (List.mem_of_getElem? (i := 12) rfl))) rfl rfl rfl (by decide +kernel) ⟨by rw [← hR]; exact Nat.le_of_ble_eq_true rfl, by rw [← hR]; exact Nat.le_of_ble_eq_true rfl⟩) ⟨fun a U g mk q => by obtain ⟨q0, q1, q2, qK, q10, q11⟩ := q; exact ⟨q0, q1, q2, jG.calling g mk a qK, q10, q11⟩, fun U hU hW => ⟨rfl, hU, hh_11.2.1, hG.step hW hU hh_11.1, jP.nil, trivial⟩⟩ rfl rfl hl.1 rfl (lv_room (Nat.le_of_ble_eq_true rfl)) dX14_utfLength_214 ⟨Nat.zero_le _, Nat.zero_le _⟩) hh_11.1 (fun q _ h => h) (fun q h => h) (fun r_29 u_28 t_28 H_28 locs_28 ht_28 hvm_28 hr_29 hb_28 hz_28 hk_28 hS_28 => ?_)
                        rw [ht_28] at hb_28
                        obtain ⟨hb_281, hb_282, hb_283, hb_284, hb_285⟩ := hb_28
                        have hh_28 : jSt (dC, dI) B base G0 G0 EX14_utfLength s.heap 0 0 [(r0, 16, 33, .int z_1)] [] [] H_28 locs_28 := ((hh_11.call hb_281 hb_282 hb_283 hb_284 hS_28 rfl (L1 := [(r0, 16, 33, .int z_1)]) [0] rfl rfl (M1 := []) [] rfl rfl (I1 := []) [] rfl rfl).more hb_285)
                        clear hh_11 ht_28 hvm_28 hz_28 hk_28 hS_28 hb_281 hb_282 hb_283 hb_284 hb_285
                        obtain ⟨hr_29b, hr_29p⟩ := hr_29
                        obtain ⟨hr_29p_0, hr_29p_1, hr_29p_2⟩ := hr_29p
                        have hr_29' := jb_01 hr_29b
                        refine lv_if_ne (tgt := 228) hx hb dX14_utfLength_217 (by decide) (fun c_30 => ?_) (fun c_30 => ?_)
                        · skip
                          have c_30' : r_29.toInt ≠ 0 := jb_ne (rfl) ((by decide)) c_30
                          refine lv_iconst (v := 0) hx hb dX14_utfLength_228 (by decide) ?_
                          rw [hQ]
                          exact W.iret (v := 0) hx hb hr (fun t ht hW => ⟨⟨0, z_1, rfl, by first | omega | rfl | assumption | decide | exact Or.inl rfl | exact Or.inr rfl | (simp only; omega), hh_28.rt (M1 := [(r0, 16, 33, .int z_1)]) [0] rfl ht⟩, by rw [ht]; try exact hh_28.1.1, fun q h9 hq => by rw [ht]; try exact hh_28.1.2.1 q h9 hq⟩) hh_28.1.2.2 dX14_utfLength_229
                        · skip
                          have c_30' : r_29.toInt = 0 := jb_ne_n (rfl) ((by decide)) c_30
                          refine lv_iload hx hb dX14_utfLength_220 (lv_at hl 6 rfl) ?_
                          refine lv_ldcw hx hb hown hcs_360 dX14_utfLength_222 ?_
                          refine lv_icmp_le (tgt := 230) hx hb dX14_utfLength_225 (by decide) (fun c_31 => ?_) (fun c_31 => ?_)
                          · skip
                            have c_31' : v6_11.toInt ≤ 1114111 := jb_le (rfl) ((by decide)) c_31
                            refine lv_aload_n hx hb dX14_utfLength_230 rfl (lv_at hl 0 rfl) ?_
                            refine lv_iload hx hb dX14_utfLength_231 (lv_at hl 6 rfl) ?_
                            refine j7_put hx hb hown hK hh_28 hB hAp hB16 (C := RX14) (T := TX14) (N := 74) rfl (by decide) hg_r0 (i := 33) (by decide) hly_16_33 rfl hlk_357 rfl (ty := .int) (v := .int v6_11) (by decide +kernel) rfl rfl (⟨_, rfl⟩) rfl (L1 := []) [] rfl rfl rfl dX14_utfLength_233 (fun H_32 locs_32 hh_32 => ?_)
                            clear hh_28
                            refine lv_iload hx hb dX14_utfLength_236 (lv_at hl 5 rfl) ?_
                            rw [hQ]
                            exact W.iret (v := w0_6) hx hb hr (fun t ht hW => ⟨⟨w0_6, v6_11, rfl, by first | omega | rfl | assumption | decide | exact Or.inl rfl | exact Or.inr rfl | (simp only; omega), hh_32.rt (M1 := [(r0, 16, 33, .int v6_11)]) [0] rfl ht⟩, by rw [ht]; try exact hh_32.1.1, fun q h9 hq => by rw [ht]; try exact hh_32.1.2.1 q h9 hq⟩) hh_32.1.2.2 dX14_utfLength_238
                          · skip
                            have c_31' : v6_11.toInt > 1114111 := jb_le_n (rfl) ((by decide)) c_31
                            refine lv_iconst (v := 0) hx hb dX14_utfLength_228 (by decide) ?_
                            rw [hQ]
                            exact W.iret (v := 0) hx hb hr (fun t ht hW => ⟨⟨0, z_1, rfl, by first | omega | rfl | assumption | decide | exact Or.inl rfl | exact Or.inr rfl | (simp only; omega), hh_28.rt (M1 := [(r0, 16, 33, .int z_1)]) [0] rfl ht⟩, by rw [ht]; try exact hh_28.1.1, fun q h9 hq => by rw [ht]; try exact hh_28.1.2.1 q h9 hq⟩) hh_28.1.2.2 dX14_utfLength_229
                      · skip
                        have c_27' : w0_6.toInt = 4 := jb_ne_n (rfl) ((by decide)) c_27
                        refine lv_iload hx hb dX14_utfLength_201 (lv_at hl 6 rfl) ?_
                        refine lv_ldc hx hb hown hcs_197 dX14_utfLength_203 ?_
                        refine lv_icmp_lt (tgt := 228) hx hb dX14_utfLength_205 (by decide) (fun c_33 => ?_) (fun c_33 => ?_)
                        · skip
                          have c_33' : v6_11.toInt < 65536 := jb_lt (rfl) ((by decide)) c_33
                          refine lv_iconst (v := 0) hx hb dX14_utfLength_228 (by decide) ?_
                          rw [hQ]
                          exact W.iret (v := 0) hx hb hr (fun t ht hW => ⟨⟨0, z_1, rfl, by first | omega | rfl | assumption | decide | exact Or.inl rfl | exact Or.inr rfl | (simp only; omega), hh_11.rt (M1 := [(r0, 16, 33, .int z_1)]) [0] rfl ht⟩, by rw [ht]; try exact hh_11.1.1, fun q h9 hq => by rw [ht]; try exact hh_11.1.2.1 q h9 hq⟩) hh_11.1.2.2 dX14_utfLength_229
                        · skip
                          have c_33' : v6_11.toInt ≥ 65536 := jb_lt_n (rfl) ((by decide)) c_33
                          refine lv_iload hx hb dX14_utfLength_208 (lv_at hl 6 rfl) ?_
                          refine lv_ldc hx hb hown hcs_179 dX14_utfLength_210 ?_
                          refine lv_ldc hx hb hown hcs_186 dX14_utfLength_212 ?_
                          refine va_calli (A0 := jA base) (H0 := s.heap) (va_runS (As := [.int v6_11, .int 55296, .int 57343]) (rest := []) ⟨hx, hb, hml, hown, hts⟩ (uX14_in l dC dI ca base B hB hAp G0 H_11 v6_11 55296 57343) (va_cwS 3 hts (jgS (jWr_48 _ (List.mem_of_getElem? (i := 10) rfl)) (jWr_48 _ (List.mem_of_getElem? (i := 11) rfl)) (jWr_1 _ (List.mem_of_getElem? (i := 5) rfl)) (jWr_48 _ (List.mem_of_getElem? (i := 12) rfl))) rfl rfl rfl (by decide +kernel) ⟨by rw [← hR]; exact Nat.le_of_ble_eq_true rfl, by rw [← hR]; exact Nat.le_of_ble_eq_true rfl⟩) ⟨fun a U g mk q => by obtain ⟨q0, q1, q2, qK, q10, q11⟩ := q; exact ⟨q0, q1, q2, jG.calling g mk a qK, q10, q11⟩, fun U hU hW => ⟨rfl, hU, hh_11.2.1, hG.step hW hU hh_11.1, jP.nil, trivial⟩⟩ rfl rfl hl.1 rfl (lv_room (Nat.le_of_ble_eq_true rfl)) dX14_utfLength_214 ⟨Nat.zero_le _, Nat.zero_le _⟩) hh_11.1 (fun q _ h => h) (fun q h => h) (fun r_35 u_34 t_34 H_34 locs_34 ht_34 hvm_34 hr_35 hb_34 hz_34 hk_34 hS_34 => ?_)
                          rw [ht_34] at hb_34
                          obtain ⟨hb_341, hb_342, hb_343, hb_344, hb_345⟩ := hb_34
                          have hh_34 : jSt (dC, dI) B base G0 G0 EX14_utfLength s.heap 0 0 [(r0, 16, 33, .int z_1)] [] [] H_34 locs_34 := ((hh_11.call hb_341 hb_342 hb_343 hb_344 hS_34 rfl (L1 := [(r0, 16, 33, .int z_1)]) [0] rfl rfl (M1 := []) [] rfl rfl (I1 := []) [] rfl rfl).more hb_345)
                          clear hh_11 ht_34 hvm_34 hz_34 hk_34 hS_34 hb_341 hb_342 hb_343 hb_344 hb_345
                          obtain ⟨hr_35b, hr_35p⟩ := hr_35
                          obtain ⟨hr_35p_0, hr_35p_1, hr_35p_2⟩ := hr_35p
                          have hr_35' := jb_01 hr_35b
                          refine lv_if_ne (tgt := 228) hx hb dX14_utfLength_217 (by decide) (fun c_36 => ?_) (fun c_36 => ?_)
                          · skip
                            have c_36' : r_35.toInt ≠ 0 := jb_ne (rfl) ((by decide)) c_36
                            refine lv_iconst (v := 0) hx hb dX14_utfLength_228 (by decide) ?_
                            rw [hQ]
                            exact W.iret (v := 0) hx hb hr (fun t ht hW => ⟨⟨0, z_1, rfl, by first | omega | rfl | assumption | decide | exact Or.inl rfl | exact Or.inr rfl | (simp only; omega), hh_34.rt (M1 := [(r0, 16, 33, .int z_1)]) [0] rfl ht⟩, by rw [ht]; try exact hh_34.1.1, fun q h9 hq => by rw [ht]; try exact hh_34.1.2.1 q h9 hq⟩) hh_34.1.2.2 dX14_utfLength_229
                          · skip
                            have c_36' : r_35.toInt = 0 := jb_ne_n (rfl) ((by decide)) c_36
                            refine lv_iload hx hb dX14_utfLength_220 (lv_at hl 6 rfl) ?_
                            refine lv_ldcw hx hb hown hcs_360 dX14_utfLength_222 ?_
                            refine lv_icmp_le (tgt := 230) hx hb dX14_utfLength_225 (by decide) (fun c_37 => ?_) (fun c_37 => ?_)
                            · skip
                              have c_37' : v6_11.toInt ≤ 1114111 := jb_le (rfl) ((by decide)) c_37
                              refine lv_aload_n hx hb dX14_utfLength_230 rfl (lv_at hl 0 rfl) ?_
                              refine lv_iload hx hb dX14_utfLength_231 (lv_at hl 6 rfl) ?_
                              refine j7_put hx hb hown hK hh_34 hB hAp hB16 (C := RX14) (T := TX14) (N := 74) rfl (by decide) hg_r0 (i := 33) (by decide) hly_16_33 rfl hlk_357 rfl (ty := .int) (v := .int v6_11) (by decide +kernel) rfl rfl (⟨_, rfl⟩) rfl (L1 := []) [] rfl rfl rfl dX14_utfLength_233 (fun H_38 locs_38 hh_38 => ?_)
                              clear hh_34
                              refine lv_iload hx hb dX14_utfLength_236 (lv_at hl 5 rfl) ?_
                              rw [hQ]
                              exact W.iret (v := w0_6) hx hb hr (fun t ht hW => ⟨⟨w0_6, v6_11, rfl, by first | omega | rfl | assumption | decide | exact Or.inl rfl | exact Or.inr rfl | (simp only; omega), hh_38.rt (M1 := [(r0, 16, 33, .int v6_11)]) [0] rfl ht⟩, by rw [ht]; try exact hh_38.1.1, fun q h9 hq => by rw [ht]; try exact hh_38.1.2.1 q h9 hq⟩) hh_38.1.2.2 dX14_utfLength_238
                            · skip
                              have c_37' : v6_11.toInt > 1114111 := jb_le_n (rfl) ((by decide)) c_37
                              refine lv_iconst (v := 0) hx hb dX14_utfLength_228 (by decide) ?_
                              rw [hQ]
                              exact W.iret (v := 0) hx hb hr (fun t ht hW => ⟨⟨0, z_1, rfl, by first | omega | rfl | assumption | decide | exact Or.inl rfl | exact Or.inr rfl | (simp only; omega), hh_34.rt (M1 := [(r0, 16, 33, .int z_1)]) [0] rfl ht⟩, by rw [ht]; try exact hh_34.1.1, fun q h9 hq => by rw [ht]; try exact hh_34.1.2.1 q h9 hq⟩) hh_34.1.2.2 dX14_utfLength_229
                · skip
                  have c_12' : v7_11.toInt < w0_6.toInt := jb_ge_n (rfl) (rfl) c_12
                  refine lv_aload_n hx hb dX14_utfLength_138 rfl (lv_at hl 1 rfl) ?_
                  refine lv_iload_n hx hb dX14_utfLength_139 rfl (lv_at hl 2 rfl) ?_
                  refine lv_iload hx hb dX14_utfLength_140 (lv_at hl 7 rfl) ?_
                  refine lv_iadd hx hb dX14_utfLength_142 ?_
                  refine lv_topi (fun z_39 ez_39 => ?_)
                  have hz_39 : z_39.toInt = a2.toInt + v7_11.toInt := by rw [ez_39]; exact jb_iadd2 (rfl) (rfl) (by omega)
                  refine j7_iald hx hb hK hh_11 hB110 1 rfl (by decide) hg_r1 (x := z_39.toInt) (rfl) (by omega) dX14_utfLength_143 (fun z_40 (hz_40 : 0 ≤ z_40.toInt ∧ z_40.toInt ≤ 255) => ?_)
                  refine lv_sipush (v := 128) hx hb dX14_utfLength_144 (by decide) ?_
                  refine lv_sipush (v := 191) hx hb dX14_utfLength_147 (by decide) ?_
                  refine va_calli (A0 := jA base) (H0 := s.heap) (va_runS (As := [.int z_40, .int 128, .int 191]) (rest := []) ⟨hx, hb, hml, hown, hts⟩ (uX14_in l dC dI ca base B hB hAp G0 H_11 z_40 128 191) (va_cwS 3 hts (jgS (jWr_48 _ (List.mem_of_getElem? (i := 10) rfl)) (jWr_48 _ (List.mem_of_getElem? (i := 11) rfl)) (jWr_1 _ (List.mem_of_getElem? (i := 5) rfl)) (jWr_48 _ (List.mem_of_getElem? (i := 12) rfl))) rfl rfl rfl (by decide +kernel) ⟨by rw [← hR]; exact Nat.le_of_ble_eq_true rfl, by rw [← hR]; exact Nat.le_of_ble_eq_true rfl⟩) ⟨fun a U g mk q => by obtain ⟨q0, q1, q2, qK, q10, q11⟩ := q; exact ⟨q0, q1, q2, jG.calling g mk a qK, q10, q11⟩, fun U hU hW => ⟨rfl, hU, hh_11.2.1, hG.step hW hU hh_11.1, jP.nil, trivial⟩⟩ rfl rfl hl.1 rfl (lv_room (Nat.le_of_ble_eq_true rfl)) dX14_utfLength_150 ⟨Nat.zero_le _, Nat.zero_le _⟩) hh_11.1 (fun q _ h => h) (fun q h => h) (fun r_42 u_41 t_41 H_41 locs_41 ht_41 hvm_41 hr_42 hb_41 hz_41 hk_41 hS_41 => ?_)
                  rw [ht_41] at hb_41
                  obtain ⟨hb_411, hb_412, hb_413, hb_414, hb_415⟩ := hb_41
                  have hh_41 : jSt (dC, dI) B base G0 G0 EX14_utfLength s.heap 0 0 [(r0, 16, 33, .int z_1)] [] [] H_41 locs_41 := ((hh_11.call hb_411 hb_412 hb_413 hb_414 hS_41 rfl (L1 := [(r0, 16, 33, .int z_1)]) [0] rfl rfl (M1 := []) [] rfl rfl (I1 := []) [] rfl rfl).more hb_415)
                  clear hh_11 ht_41 hvm_41 hz_41 hk_41 hS_41 hb_411 hb_412 hb_413 hb_414 hb_415
                  obtain ⟨hr_42b, hr_42p⟩ := hr_42
                  obtain ⟨hr_42p_0, hr_42p_1, hr_42p_2⟩ := hr_42p
                  have hr_42' := jb_01 hr_42b
                  refine lv_if_ne (tgt := 158) hx hb dX14_utfLength_153 (by decide) (fun c_43 => ?_) (fun c_43 => ?_)
                  · skip
                    have c_43' : r_42.toInt ≠ 0 := jb_ne (rfl) ((by decide)) c_43
                    refine lv_iload hx hb dX14_utfLength_158 (lv_at hl 6 rfl) ?_
                    refine lv_bipush (v := 6) hx hb dX14_utfLength_160 (by decide) ?_
                    refine lv_ishl hx hb dX14_utfLength_162 ?_
                    refine lv_topi (fun z_44 ez_44 => ?_)
                    refine lv_aload_n hx hb dX14_utfLength_163 rfl (lv_at hl 1 rfl) ?_
                    refine lv_iload_n hx hb dX14_utfLength_164 rfl (lv_at hl 2 rfl) ?_
                    refine lv_iload hx hb dX14_utfLength_165 (lv_at hl 7 rfl) ?_
                    refine lv_iadd hx hb dX14_utfLength_167 ?_
                    refine lv_topi (fun z_45 ez_45 => ?_)
                    have hz_45 : z_45.toInt = a2.toInt + v7_11.toInt := by rw [ez_45]; exact jb_iadd2 (rfl) (rfl) (by omega)
                    refine j7_iald hx hb hK hh_41 hB110 1 rfl (by decide) hg_r1 (x := z_45.toInt) (rfl) (by omega) dX14_utfLength_168 (fun z_46 (hz_46 : 0 ≤ z_46.toInt ∧ z_46.toInt ≤ 255) => ?_)
                    refine lv_bipush (v := 63) hx hb dX14_utfLength_169 (by decide) ?_
                    refine lv_iand hx hb dX14_utfLength_171 ?_
                    refine lv_topi (fun z_47 ez_47 => ?_)
                    have hz_47 : 0 ≤ z_47.toInt ∧ z_47.toInt ≤ 63 := by rw [ez_47]; exact jb_and z_46 (m := 63) (k := 6) (by decide) (by decide)
                    refine lv_ior hx hb dX14_utfLength_172 ?_
                    refine lv_topi (fun z_48 ez_48 => ?_)
                    refine lv_istore (lv' := [(6, .int z_48), (0, .ref r0), (1, .ref r1), (2, .int a2), (3, .int a3), (4, .int z_1), (5, .int w0_6), (7, .int v7_11)]) hx hb dX14_utfLength_173 hl (by decide) rfl (fun ls hl => ?_)
                    obtain ⟨z_49, ez_49⟩ : ∃ y : Int32, y = v7_11 + 1 := ⟨_, rfl⟩
                    refine lv_iinc (v := z_49) (lv' := [(7, .int z_49), (6, .int z_48), (0, .ref r0), (1, .ref r1), (2, .int a2), (3, .int a3), (4, .int z_1), (5, .int w0_6)]) hx hb dX14_utfLength_175 hl (k := 7) rfl (by rw [ez_49]; rfl) (by decide) rfl (fun ls hl => ?_)
                    have hz_49 : z_49.toInt = v7_11.toInt + 1 := by rw [ez_49]; exact jb_iadd2 (rfl) (by decide) (by omega)
                    refine lv_goto (tgt := 131) hx hb dX14_utfLength_178 (by decide) ?_
                    exact L131 z_48 z_49 _ _ hh_41 (by first | omega | (refine ⟨?_, ?_⟩ <;> (first | omega | rfl | assumption | decide | exact Or.inl rfl | exact Or.inr rfl | (simp only; omega)))) (by omega) _ (lv_sub hl [2, 3, 4, 5, 6, 7, 1, 0] rfl)
                  · skip
                    have c_43' : r_42.toInt = 0 := jb_ne_n (rfl) ((by decide)) c_43
                    refine lv_iconst (v := 0) hx hb dX14_utfLength_156 (by decide) ?_
                    rw [hQ]
                    exact W.iret (v := 0) hx hb hr (fun t ht hW => ⟨⟨0, z_1, rfl, by first | omega | rfl | assumption | decide | exact Or.inl rfl | exact Or.inr rfl | (simp only; omega), hh_41.rt (M1 := [(r0, 16, 33, .int z_1)]) [0] rfl ht⟩, by rw [ht]; try exact hh_41.1.1, fun q h9 hq => by rw [ht]; try exact hh_41.1.2.1 q h9 hq⟩) hh_41.1.2.2 dX14_utfLength_157
            exact L131 (w0_6.toInt - (1 : Int32).toInt : Int).toNat.succ w0_10 1 _ _ hh_10 (by first | omega | (refine ⟨?_, ?_⟩ <;> (first | omega | rfl | assumption | decide | exact Or.inl rfl | exact Or.inr rfl | (simp only; omega)))) (by omega) _ (lv_sub hl [2, 3, 4, 5, 6, 7, 1, 0] rfl)
          refine lv_icmp_ne (tgt := 107) hx hb dX14_utfLength_96 (by decide) (fun c_50 => ?_) (fun c_50 => ?_)
          · skip
            have c_50' : w0_6.toInt ≠ 2 := jb_ne (rfl) ((by decide)) c_50
            refine lv_iload hx hb dX14_utfLength_107 (lv_at hl 0 rfl) ?_
            refine lv_iconst (v := 3) hx hb dX14_utfLength_109 (by decide) ?_
            refine lv_icmp_ne (tgt := 121) hx hb dX14_utfLength_110 (by decide) (fun c_51 => ?_) (fun c_51 => ?_)
            · skip
              have c_51' : w0_6.toInt ≠ 3 := jb_ne (rfl) ((by decide)) c_51
              refine lv_iload hx hb dX14_utfLength_121 (lv_at hl 5 rfl) ?_
              refine lv_bipush (v := 7) hx hb dX14_utfLength_123 (by decide) ?_
              refine lv_iand hx hb dX14_utfLength_125 ?_
              refine lv_topi (fun z_52 ez_52 => ?_)
              have hz_52 : 0 ≤ z_52.toInt ∧ z_52.toInt ≤ 7 := by rw [ez_52]; exact jb_and z_1 (m := 7) (k := 3) (by decide) (by decide)
              exact C126 z_52 _ _ hh_6 (trivial) _ (lv_sub hl [1, 2, 3, 4, 5, 0] rfl)
            · skip
              have c_51' : w0_6.toInt = 3 := jb_ne_n (rfl) ((by decide)) c_51
              refine lv_iload hx hb dX14_utfLength_113 (lv_at hl 5 rfl) ?_
              refine lv_bipush (v := 15) hx hb dX14_utfLength_115 (by decide) ?_
              refine lv_iand hx hb dX14_utfLength_117 ?_
              refine lv_topi (fun z_53 ez_53 => ?_)
              have hz_53 : 0 ≤ z_53.toInt ∧ z_53.toInt ≤ 15 := by rw [ez_53]; exact jb_and z_1 (m := 15) (k := 4) (by decide) (by decide)
              refine lv_goto (tgt := 126) hx hb dX14_utfLength_118 (by decide) ?_
              exact C126 z_53 _ _ hh_6 (trivial) _ (lv_sub hl [1, 2, 3, 4, 5, 0] rfl)
          · skip
            have c_50' : w0_6.toInt = 2 := jb_ne_n (rfl) ((by decide)) c_50
            refine lv_iload hx hb dX14_utfLength_99 (lv_at hl 5 rfl) ?_
            refine lv_bipush (v := 31) hx hb dX14_utfLength_101 (by decide) ?_
            refine lv_iand hx hb dX14_utfLength_103 ?_
            refine lv_topi (fun z_54 ez_54 => ?_)
            have hz_54 : 0 ≤ z_54.toInt ∧ z_54.toInt ≤ 31 := by rw [ez_54]; exact jb_and z_1 (m := 31) (k := 5) (by decide) (by decide)
            refine lv_goto (tgt := 126) hx hb dX14_utfLength_104 (by decide) ?_
            exact C126 z_54 _ _ hh_6 (trivial) _ (lv_sub hl [1, 2, 3, 4, 5, 0] rfl)
        · skip
          have c_9' : z_8.toInt > a3.toInt := jb_le_n (rfl) (rfl) c_9
          refine lv_iconst (v := 0) hx hb dX14_utfLength_91 (by decide) ?_
          rw [hQ]
          exact W.iret (v := 0) hx hb hr (fun t ht hW => ⟨⟨0, z_1, rfl, by first | omega | rfl | assumption | decide | exact Or.inl rfl | exact Or.inr rfl | (simp only; omega), hh_6.rt (M1 := [(r0, 16, 33, .int z_1)]) [0] rfl ht⟩, by rw [ht]; try exact hh_6.1.1, fun q h9 hq => by rw [ht]; try exact hh_6.1.2.1 q h9 hq⟩) hh_6.1.2.2 dX14_utfLength_92
    refine lv_if_eq (tgt := 39) hx hb dX14_utfLength_32 (by decide) (fun c_55 => ?_) (fun c_55 => ?_)
    · skip
      have c_55' : r_5.toInt = 0 := jb_eq (rfl) ((by decide)) c_55
      refine lv_iload hx hb dX14_utfLength_39 (lv_at hl 0 rfl) ?_
      refine lv_sipush (v := 224) hx hb dX14_utfLength_41 (by decide) ?_
      refine lv_sipush (v := 239) hx hb dX14_utfLength_44 (by decide) ?_
      refine va_calli (A0 := jA base) (H0 := s.heap) (va_runS (As := [.int z_1, .int 224, .int 239]) (rest := []) ⟨hx, hb, hml, hown, hts⟩ (uX14_in l dC dI ca base B hB hAp G0 H_4 z_1 224 239) (va_cwS 3 hts (jgS (jWr_48 _ (List.mem_of_getElem? (i := 10) rfl)) (jWr_48 _ (List.mem_of_getElem? (i := 11) rfl)) (jWr_1 _ (List.mem_of_getElem? (i := 5) rfl)) (jWr_48 _ (List.mem_of_getElem? (i := 12) rfl))) rfl rfl rfl (by decide +kernel) ⟨by rw [← hR]; exact Nat.le_of_ble_eq_true rfl, by rw [← hR]; exact Nat.le_of_ble_eq_true rfl⟩) ⟨fun a U g mk q => by obtain ⟨q0, q1, q2, qK, q10, q11⟩ := q; exact ⟨q0, q1, q2, jG.calling g mk a qK, q10, q11⟩, fun U hU hW => ⟨rfl, hU, hh_4.2.1, hG.step hW hU hh_4.1, jP.nil, trivial⟩⟩ rfl rfl hl.1 rfl (lv_room (Nat.le_of_ble_eq_true rfl)) dX14_utfLength_47 ⟨Nat.zero_le _, Nat.zero_le _⟩) hh_4.1 (fun q _ h => h) (fun q h => h) (fun r_57 u_56 t_56 H_56 locs_56 ht_56 hvm_56 hr_57 hb_56 hz_56 hk_56 hS_56 => ?_)
      rw [ht_56] at hb_56
      obtain ⟨hb_561, hb_562, hb_563, hb_564, hb_565⟩ := hb_56
      have hh_56 : jSt (dC, dI) B base G0 G0 EX14_utfLength s.heap 0 0 [(r0, 16, 33, .int z_1)] [] [] H_56 locs_56 := ((hh_4.call hb_561 hb_562 hb_563 hb_564 hS_56 rfl (L1 := [(r0, 16, 33, .int z_1)]) [0] rfl rfl (M1 := []) [] rfl rfl (I1 := []) [] rfl rfl).more hb_565)
      clear hh_4 ht_56 hvm_56 hz_56 hk_56 hS_56 hb_561 hb_562 hb_563 hb_564 hb_565
      obtain ⟨hr_57b, hr_57p⟩ := hr_57
      obtain ⟨hr_57p_0, hr_57p_1, hr_57p_2⟩ := hr_57p
      have hr_57' := jb_01 hr_57b
      refine lv_if_eq (tgt := 57) hx hb dX14_utfLength_50 (by decide) (fun c_58 => ?_) (fun c_58 => ?_)
      · skip
        have c_58' : r_57.toInt = 0 := jb_eq (rfl) ((by decide)) c_58
        refine lv_iload hx hb dX14_utfLength_57 (lv_at hl 0 rfl) ?_
        refine lv_sipush (v := 240) hx hb dX14_utfLength_59 (by decide) ?_
        refine lv_sipush (v := 244) hx hb dX14_utfLength_62 (by decide) ?_
        refine va_calli (A0 := jA base) (H0 := s.heap) (va_runS (As := [.int z_1, .int 240, .int 244]) (rest := []) ⟨hx, hb, hml, hown, hts⟩ (uX14_in l dC dI ca base B hB hAp G0 H_56 z_1 240 244) (va_cwS 3 hts (jgS (jWr_48 _ (List.mem_of_getElem? (i := 10) rfl)) (jWr_48 _ (List.mem_of_getElem? (i := 11) rfl)) (jWr_1 _ (List.mem_of_getElem? (i := 5) rfl)) (jWr_48 _ (List.mem_of_getElem? (i := 12) rfl))) rfl rfl rfl (by decide +kernel) ⟨by rw [← hR]; exact Nat.le_of_ble_eq_true rfl, by rw [← hR]; exact Nat.le_of_ble_eq_true rfl⟩) ⟨fun a U g mk q => by obtain ⟨q0, q1, q2, qK, q10, q11⟩ := q; exact ⟨q0, q1, q2, jG.calling g mk a qK, q10, q11⟩, fun U hU hW => ⟨rfl, hU, hh_56.2.1, hG.step hW hU hh_56.1, jP.nil, trivial⟩⟩ rfl rfl hl.1 rfl (lv_room (Nat.le_of_ble_eq_true rfl)) dX14_utfLength_65 ⟨Nat.zero_le _, Nat.zero_le _⟩) hh_56.1 (fun q _ h => h) (fun q h => h) (fun r_60 u_59 t_59 H_59 locs_59 ht_59 hvm_59 hr_60 hb_59 hz_59 hk_59 hS_59 => ?_)
        rw [ht_59] at hb_59
        obtain ⟨hb_591, hb_592, hb_593, hb_594, hb_595⟩ := hb_59
        have hh_59 : jSt (dC, dI) B base G0 G0 EX14_utfLength s.heap 0 0 [(r0, 16, 33, .int z_1)] [] [] H_59 locs_59 := ((hh_56.call hb_591 hb_592 hb_593 hb_594 hS_59 rfl (L1 := [(r0, 16, 33, .int z_1)]) [0] rfl rfl (M1 := []) [] rfl rfl (I1 := []) [] rfl rfl).more hb_595)
        clear hh_56 ht_59 hvm_59 hz_59 hk_59 hS_59 hb_591 hb_592 hb_593 hb_594 hb_595
        obtain ⟨hr_60b, hr_60p⟩ := hr_60
        obtain ⟨hr_60p_0, hr_60p_1, hr_60p_2⟩ := hr_60p
        have hr_60' := jb_01 hr_60b
        refine lv_if_eq (tgt := 75) hx hb dX14_utfLength_68 (by decide) (fun c_61 => ?_) (fun c_61 => ?_)
        · skip
          have c_61' : r_60.toInt = 0 := jb_eq (rfl) ((by decide)) c_61
          refine lv_iconst (v := 0) hx hb dX14_utfLength_75 (by decide) ?_
          exact C76 0 _ _ hh_59 (by first | omega | (refine ⟨?_, ?_, ?_⟩ <;> (first | omega | rfl | assumption | decide | exact Or.inl rfl | exact Or.inr rfl | (simp only; omega)))) _ (lv_sub hl [1, 2, 3, 4, 0] rfl)
        · skip
          have c_61' : r_60.toInt ≠ 0 := jb_eq_n (rfl) ((by decide)) c_61
          refine lv_iconst (v := 4) hx hb dX14_utfLength_71 (by decide) ?_
          refine lv_goto (tgt := 76) hx hb dX14_utfLength_72 (by decide) ?_
          exact C76 4 _ _ hh_59 (by first | omega | (refine ⟨?_, ?_, ?_⟩ <;> (first | omega | rfl | assumption | decide | exact Or.inl rfl | exact Or.inr rfl | (simp only; omega)))) _ (lv_sub hl [1, 2, 3, 4, 0] rfl)
      · skip
        have c_58' : r_57.toInt ≠ 0 := jb_eq_n (rfl) ((by decide)) c_58
        refine lv_iconst (v := 3) hx hb dX14_utfLength_53 (by decide) ?_
        refine lv_goto (tgt := 76) hx hb dX14_utfLength_54 (by decide) ?_
        exact C76 3 _ _ hh_56 (by first | omega | (refine ⟨?_, ?_, ?_⟩ <;> (first | omega | rfl | assumption | decide | exact Or.inl rfl | exact Or.inr rfl | (simp only; omega)))) _ (lv_sub hl [1, 2, 3, 4, 0] rfl)
    · skip
      have c_55' : r_5.toInt ≠ 0 := jb_eq_n (rfl) ((by decide)) c_55
      refine lv_iconst (v := 2) hx hb dX14_utfLength_35 (by decide) ?_
      refine lv_goto (tgt := 76) hx hb dX14_utfLength_36 (by decide) ?_
      exact C76 2 _ _ hh_4 (by first | omega | (refine ⟨?_, ?_, ?_⟩ <;> (first | omega | rfl | assumption | decide | exact Or.inl rfl | exact Or.inr rfl | (simp only; omega)))) _ (lv_sub hl [1, 2, 3, 4, 0] rfl)
  · skip
    have c_3' : z_1.toInt < 128 := jb_ge_n (rfl) ((by decide)) c_3
    refine lv_iconst (v := 1) hx hb dX14_utfLength_19 (by decide) ?_
    rw [hQ]
    exact W.iret (v := 1) hx hb hr (fun t ht hW => ⟨⟨1, z_1, rfl, by first | omega | rfl | assumption | decide | exact Or.inl rfl | exact Or.inr rfl | (simp only; omega), hh_2.rt (M1 := [(r0, 16, 33, .int z_1)]) [0] rfl ht⟩, by rw [ht]; try exact hh_2.1.1, fun q h9 hq => by rw [ht]; try exact hh_2.1.2.1 q h9 hq⟩) hh_2.1.2.2 dX14_utfLength_20
end
section
theorem dX14_escape_0 : decode cX14_escape 0 = .ok (.aload_n 0, 1) := by decide +kernel
theorem dX14_escape_1 : decode cX14_escape 1 = .ok (.invokevirtual 279, 3) := by decide +kernel
theorem dX14_escape_4 : decode cX14_escape 4 = .ok (.istore_n 1, 1) := by decide +kernel
theorem dX14_escape_5 : decode cX14_escape 5 = .ok (.aload_n 0, 1) := by decide +kernel
theorem dX14_escape_6 : decode cX14_escape 6 = .ok (.dup, 1) := by decide +kernel
theorem dX14_escape_7 : decode cX14_escape 7 = .ok (.getfield 273, 3) := by decide +kernel
theorem dX14_escape_10 : decode cX14_escape 10 = .ok (.iconst 1, 1) := by decide +kernel
theorem dX14_escape_11 : decode cX14_escape 11 = .ok (.iadd, 1) := by decide +kernel
theorem dX14_escape_12 : decode cX14_escape 12 = .ok (.putfield 273, 3) := by decide +kernel
theorem dX14_escape_15 : decode cX14_escape 15 = .ok (.ldc_w 337, 3) := by decide +kernel
theorem dX14_escape_18 : decode cX14_escape 18 = .ok (.astore_n 2, 1) := by decide +kernel
theorem dX14_escape_19 : decode cX14_escape 19 = .ok (.iload_n 1, 1) := by decide +kernel
theorem dX14_escape_20 : decode cX14_escape 20 = .ok (.ifCond .ge 7, 3) := by decide +kernel
theorem dX14_escape_23 : decode cX14_escape 23 = .ok (.iconst (-1), 1) := by decide +kernel
theorem dX14_escape_24 : decode cX14_escape 24 = .ok (.goto 8, 3) := by decide +kernel
theorem dX14_escape_27 : decode cX14_escape 27 = .ok (.aload_n 2, 1) := by decide +kernel
theorem dX14_escape_28 : decode cX14_escape 28 = .ok (.iload_n 1, 1) := by decide +kernel
theorem dX14_escape_29 : decode cX14_escape 29 = .ok (.invokevirtual 339, 3) := by decide +kernel
theorem dX14_escape_32 : decode cX14_escape 32 = .ok (.istore_n 3, 1) := by decide +kernel
theorem dX14_escape_33 : decode cX14_escape 33 = .ok (.iload_n 3, 1) := by decide +kernel
theorem dX14_escape_34 : decode cX14_escape 34 = .ok (.ifCond .lt 63, 3) := by decide +kernel
theorem dX14_escape_37 : decode cX14_escape 37 = .ok (.aload_n 0, 1) := by decide +kernel
theorem dX14_escape_38 : decode cX14_escape 38 = .ok (.iload_n 3, 1) := by decide +kernel
theorem dX14_escape_39 : decode cX14_escape 39 = .ok (.iconst 3, 1) := by decide +kernel
theorem dX14_escape_40 : decode cX14_escape 40 = .ok (.if_icmp .ge 7, 3) := by decide +kernel
theorem dX14_escape_43 : decode cX14_escape 43 = .ok (.iload_n 1, 1) := by decide +kernel
theorem dX14_escape_44 : decode cX14_escape 44 = .ok (.goto 49, 3) := by decide +kernel
theorem dX14_escape_47 : decode cX14_escape 47 = .ok (.iload_n 1, 1) := by decide +kernel
theorem dX14_escape_48 : decode cX14_escape 48 = .ok (.bipush 98, 2) := by decide +kernel
theorem dX14_escape_50 : decode cX14_escape 50 = .ok (.if_icmp .ne 8, 3) := by decide +kernel
theorem dX14_escape_53 : decode cX14_escape 53 = .ok (.bipush 8, 2) := by decide +kernel
theorem dX14_escape_55 : decode cX14_escape 55 = .ok (.goto 38, 3) := by decide +kernel
theorem dX14_escape_58 : decode cX14_escape 58 = .ok (.iload_n 1, 1) := by decide +kernel
theorem dX14_escape_59 : decode cX14_escape 59 = .ok (.bipush 102, 2) := by decide +kernel
theorem dX14_escape_61 : decode cX14_escape 61 = .ok (.if_icmp .ne 8, 3) := by decide +kernel
theorem dX14_escape_64 : decode cX14_escape 64 = .ok (.bipush 12, 2) := by decide +kernel
theorem dX14_escape_66 : decode cX14_escape 66 = .ok (.goto 27, 3) := by decide +kernel
theorem dX14_escape_69 : decode cX14_escape 69 = .ok (.iload_n 1, 1) := by decide +kernel
theorem dX14_escape_70 : decode cX14_escape 70 = .ok (.bipush 110, 2) := by decide +kernel
theorem dX14_escape_72 : decode cX14_escape 72 = .ok (.if_icmp .ne 8, 3) := by decide +kernel
theorem dX14_escape_75 : decode cX14_escape 75 = .ok (.bipush 10, 2) := by decide +kernel
theorem dX14_escape_77 : decode cX14_escape 77 = .ok (.goto 16, 3) := by decide +kernel
theorem dX14_escape_80 : decode cX14_escape 80 = .ok (.iload_n 1, 1) := by decide +kernel
theorem dX14_escape_81 : decode cX14_escape 81 = .ok (.bipush 114, 2) := by decide +kernel
theorem dX14_escape_83 : decode cX14_escape 83 = .ok (.if_icmp .ne 8, 3) := by decide +kernel
theorem dX14_escape_86 : decode cX14_escape 86 = .ok (.bipush 13, 2) := by decide +kernel
theorem dX14_escape_88 : decode cX14_escape 88 = .ok (.goto 5, 3) := by decide +kernel
theorem dX14_escape_91 : decode cX14_escape 91 = .ok (.bipush 9, 2) := by decide +kernel
theorem dX14_escape_93 : decode cX14_escape 93 = .ok (.invokevirtual 342, 3) := by decide +kernel
theorem dX14_escape_96 : decode cX14_escape 96 = .ok (.return_, 1) := by decide +kernel
theorem dX14_escape_97 : decode cX14_escape 97 = .ok (.iload_n 1, 1) := by decide +kernel
theorem dX14_escape_98 : decode cX14_escape 98 = .ok (.bipush 117, 2) := by decide +kernel
theorem dX14_escape_100 : decode cX14_escape 100 = .ok (.if_icmp .ne 10, 3) := by decide +kernel
theorem dX14_escape_103 : decode cX14_escape 103 = .ok (.aload_n 0, 1) := by decide +kernel
theorem dX14_escape_104 : decode cX14_escape 104 = .ok (.invokevirtual 345, 3) := by decide +kernel
theorem dX14_escape_107 : decode cX14_escape 107 = .ok (.goto 4, 3) := by decide +kernel
theorem dX14_escape_110 : decode cX14_escape 110 = .ok (.iconst (-1), 1) := by decide +kernel
theorem dX14_escape_111 : decode cX14_escape 111 = .ok (.istore 4, 2) := by decide +kernel
theorem dX14_escape_113 : decode cX14_escape 113 = .ok (.iload 4, 2) := by decide +kernel
theorem dX14_escape_115 : decode cX14_escape 115 = .ok (.ifCond .lt 15, 3) := by decide +kernel
theorem dX14_escape_118 : decode cX14_escape 118 = .ok (.iload 4, 2) := by decide +kernel
theorem dX14_escape_120 : decode cX14_escape 120 = .ok (.ldc 185, 2) := by decide +kernel
theorem dX14_escape_122 : decode cX14_escape 122 = .ok (.ldc 186, 2) := by decide +kernel
theorem dX14_escape_124 : decode cX14_escape 124 = .ok (.invokestatic 181, 3) := by decide +kernel
theorem dX14_escape_127 : decode cX14_escape 127 = .ok (.ifCond .eq 9, 3) := by decide +kernel
theorem dX14_escape_130 : decode cX14_escape 130 = .ok (.aload_n 0, 1) := by decide +kernel
theorem dX14_escape_131 : decode cX14_escape 131 = .ok (.iconst 1, 1) := by decide +kernel
theorem dX14_escape_132 : decode cX14_escape 132 = .ok (.putfield 288, 3) := by decide +kernel
theorem dX14_escape_135 : decode cX14_escape 135 = .ok (.return_, 1) := by decide +kernel
theorem dX14_escape_136 : decode cX14_escape 136 = .ok (.iload 4, 2) := by decide +kernel
theorem dX14_escape_138 : decode cX14_escape 138 = .ok (.ldc 179, 2) := by decide +kernel
theorem dX14_escape_140 : decode cX14_escape 140 = .ok (.ldc 180, 2) := by decide +kernel
theorem dX14_escape_142 : decode cX14_escape 142 = .ok (.invokestatic 181, 3) := by decide +kernel
theorem dX14_escape_145 : decode cX14_escape 145 = .ok (.ifCond .ne 10, 3) := by decide +kernel
theorem dX14_escape_148 : decode cX14_escape 148 = .ok (.aload_n 0, 1) := by decide +kernel
theorem dX14_escape_149 : decode cX14_escape 149 = .ok (.iload 4, 2) := by decide +kernel
theorem dX14_escape_151 : decode cX14_escape 151 = .ok (.invokevirtual 342, 3) := by decide +kernel
theorem dX14_escape_154 : decode cX14_escape 154 = .ok (.return_, 1) := by decide +kernel
theorem dX14_escape_155 : decode cX14_escape 155 = .ok (.aload_n 0, 1) := by decide +kernel
theorem dX14_escape_156 : decode cX14_escape 156 = .ok (.ldc_w 348, 3) := by decide +kernel
theorem dX14_escape_159 : decode cX14_escape 159 = .ok (.invokevirtual 309, 3) := by decide +kernel
theorem dX14_escape_162 : decode cX14_escape 162 = .ok (.ifCond .eq 10, 3) := by decide +kernel
theorem dX14_escape_165 : decode cX14_escape 165 = .ok (.aload_n 0, 1) := by decide +kernel
theorem dX14_escape_166 : decode cX14_escape 166 = .ok (.invokevirtual 345, 3) := by decide +kernel
theorem dX14_escape_169 : decode cX14_escape 169 = .ok (.goto 4, 3) := by decide +kernel
theorem dX14_escape_172 : decode cX14_escape 172 = .ok (.iconst (-1), 1) := by decide +kernel
theorem dX14_escape_173 : decode cX14_escape 173 = .ok (.istore 5, 2) := by decide +kernel
theorem dX14_escape_175 : decode cX14_escape 175 = .ok (.iload 5, 2) := by decide +kernel
theorem dX14_escape_177 : decode cX14_escape 177 = .ok (.ldc 185, 2) := by decide +kernel
theorem dX14_escape_179 : decode cX14_escape 179 = .ok (.ldc 186, 2) := by decide +kernel
theorem dX14_escape_181 : decode cX14_escape 181 = .ok (.invokestatic 181, 3) := by decide +kernel
theorem dX14_escape_184 : decode cX14_escape 184 = .ok (.ifCond .ne 9, 3) := by decide +kernel
theorem dX14_escape_187 : decode cX14_escape 187 = .ok (.aload_n 0, 1) := by decide +kernel
theorem dX14_escape_188 : decode cX14_escape 188 = .ok (.iconst 1, 1) := by decide +kernel
theorem dX14_escape_189 : decode cX14_escape 189 = .ok (.putfield 288, 3) := by decide +kernel
theorem dX14_escape_192 : decode cX14_escape 192 = .ok (.return_, 1) := by decide +kernel
theorem dX14_escape_193 : decode cX14_escape 193 = .ok (.aload_n 0, 1) := by decide +kernel
theorem dX14_escape_194 : decode cX14_escape 194 = .ok (.iload 4, 2) := by decide +kernel
theorem dX14_escape_196 : decode cX14_escape 196 = .ok (.invokevirtual 342, 3) := by decide +kernel
theorem dX14_escape_199 : decode cX14_escape 199 = .ok (.aload_n 0, 1) := by decide +kernel
theorem dX14_escape_200 : decode cX14_escape 200 = .ok (.iload 5, 2) := by decide +kernel
theorem dX14_escape_202 : decode cX14_escape 202 = .ok (.invokevirtual 342, 3) := by decide +kernel
theorem dX14_escape_205 : decode cX14_escape 205 = .ok (.return_, 1) := by decide +kernel
theorem dX14_readString_0 : decode cX14_readString 0 = .ok (.aload_n 0, 1) := by decide +kernel
theorem dX14_readString_1 : decode cX14_readString 1 = .ok (.dup, 1) := by decide +kernel
theorem dX14_readString_2 : decode cX14_readString 2 = .ok (.getfield 273, 3) := by decide +kernel
theorem dX14_readString_5 : decode cX14_readString 5 = .ok (.iconst 1, 1) := by decide +kernel
theorem dX14_readString_6 : decode cX14_readString 6 = .ok (.iadd, 1) := by decide +kernel
theorem dX14_readString_7 : decode cX14_readString 7 = .ok (.putfield 273, 3) := by decide +kernel
theorem dX14_readString_10 : decode cX14_readString 10 = .ok (.aload_n 0, 1) := by decide +kernel
theorem dX14_readString_11 : decode cX14_readString 11 = .ok (.getfield 304, 3) := by decide +kernel
theorem dX14_readString_14 : decode cX14_readString 14 = .ok (.istore_n 1, 1) := by decide +kernel
theorem dX14_readString_15 : decode cX14_readString 15 = .ok (.aload_n 0, 1) := by decide +kernel
theorem dX14_readString_16 : decode cX14_readString 16 = .ok (.getfield 288, 3) := by decide +kernel
theorem dX14_readString_19 : decode cX14_readString 19 = .ok (.ifCond .ne 104, 3) := by decide +kernel
theorem dX14_readString_22 : decode cX14_readString 22 = .ok (.aload_n 0, 1) := by decide +kernel
theorem dX14_readString_23 : decode cX14_readString 23 = .ok (.invokevirtual 279, 3) := by decide +kernel
theorem dX14_readString_26 : decode cX14_readString 26 = .ok (.bipush 34, 2) := by decide +kernel
theorem dX14_readString_28 : decode cX14_readString 28 = .ok (.if_icmp .eq 95, 3) := by decide +kernel
theorem dX14_readString_31 : decode cX14_readString 31 = .ok (.aload_n 0, 1) := by decide +kernel
theorem dX14_readString_32 : decode cX14_readString 32 = .ok (.invokevirtual 279, 3) := by decide +kernel
theorem dX14_readString_35 : decode cX14_readString 35 = .ok (.istore_n 2, 1) := by decide +kernel
theorem dX14_readString_36 : decode cX14_readString 36 = .ok (.iload_n 2, 1) := by decide +kernel
theorem dX14_readString_37 : decode cX14_readString 37 = .ok (.bipush 32, 2) := by decide +kernel
theorem dX14_readString_39 : decode cX14_readString 39 = .ok (.if_icmp .ge 11, 3) := by decide +kernel
theorem dX14_readString_42 : decode cX14_readString 42 = .ok (.aload_n 0, 1) := by decide +kernel
theorem dX14_readString_43 : decode cX14_readString 43 = .ok (.iconst 1, 1) := by decide +kernel
theorem dX14_readString_44 : decode cX14_readString 44 = .ok (.putfield 288, 3) := by decide +kernel
theorem dX14_readString_47 : decode cX14_readString 47 = .ok (.goto 73, 3) := by decide +kernel
theorem dX14_readString_50 : decode cX14_readString 50 = .ok (.iload_n 2, 1) := by decide +kernel
theorem dX14_readString_51 : decode cX14_readString 51 = .ok (.bipush 92, 2) := by decide +kernel
theorem dX14_readString_53 : decode cX14_readString 53 = .ok (.if_icmp .ne 20, 3) := by decide +kernel
theorem dX14_readString_56 : decode cX14_readString 56 = .ok (.aload_n 0, 1) := by decide +kernel
theorem dX14_readString_57 : decode cX14_readString 57 = .ok (.dup, 1) := by decide +kernel
theorem dX14_readString_58 : decode cX14_readString 58 = .ok (.getfield 273, 3) := by decide +kernel
theorem dX14_readString_61 : decode cX14_readString 61 = .ok (.iconst 1, 1) := by decide +kernel
theorem dX14_readString_62 : decode cX14_readString 62 = .ok (.iadd, 1) := by decide +kernel
theorem dX14_readString_63 : decode cX14_readString 63 = .ok (.putfield 273, 3) := by decide +kernel
theorem dX14_readString_66 : decode cX14_readString 66 = .ok (.aload_n 0, 1) := by decide +kernel
theorem dX14_readString_67 : decode cX14_readString 67 = .ok (.invokevirtual 350, 3) := by decide +kernel
theorem dX14_readString_70 : decode cX14_readString 70 = .ok (.goto 50, 3) := by decide +kernel
theorem dX14_readString_73 : decode cX14_readString 73 = .ok (.aload_n 0, 1) := by decide +kernel
theorem dX14_readString_74 : decode cX14_readString 74 = .ok (.aload_n 0, 1) := by decide +kernel
theorem dX14_readString_75 : decode cX14_readString 75 = .ok (.getfield 20, 3) := by decide +kernel
theorem dX14_readString_78 : decode cX14_readString 78 = .ok (.aload_n 0, 1) := by decide +kernel
theorem dX14_readString_79 : decode cX14_readString 79 = .ok (.getfield 273, 3) := by decide +kernel
theorem dX14_readString_82 : decode cX14_readString 82 = .ok (.aload_n 0, 1) := by decide +kernel
theorem dX14_readString_83 : decode cX14_readString 83 = .ok (.getfield 276, 3) := by decide +kernel
theorem dX14_readString_86 : decode cX14_readString 86 = .ok (.invokevirtual 353, 3) := by decide +kernel
theorem dX14_readString_89 : decode cX14_readString 89 = .ok (.istore_n 3, 1) := by decide +kernel
theorem dX14_readString_90 : decode cX14_readString 90 = .ok (.iload_n 3, 1) := by decide +kernel
theorem dX14_readString_91 : decode cX14_readString 91 = .ok (.ifCond .ne 11, 3) := by decide +kernel
theorem dX14_readString_94 : decode cX14_readString 94 = .ok (.aload_n 0, 1) := by decide +kernel
theorem dX14_readString_95 : decode cX14_readString 95 = .ok (.iconst 1, 1) := by decide +kernel
theorem dX14_readString_96 : decode cX14_readString 96 = .ok (.putfield 288, 3) := by decide +kernel
theorem dX14_readString_99 : decode cX14_readString 99 = .ok (.goto 11, 3) := by decide +kernel
theorem dX14_readString_102 : decode cX14_readString 102 = .ok (.aload_n 0, 1) := by decide +kernel
theorem dX14_readString_103 : decode cX14_readString 103 = .ok (.aload_n 0, 1) := by decide +kernel
theorem dX14_readString_104 : decode cX14_readString 104 = .ok (.getfield 357, 3) := by decide +kernel
theorem dX14_readString_107 : decode cX14_readString 107 = .ok (.invokevirtual 342, 3) := by decide +kernel
theorem dX14_readString_110 : decode cX14_readString 110 = .ok (.aload_n 0, 1) := by decide +kernel
theorem dX14_readString_111 : decode cX14_readString 111 = .ok (.dup, 1) := by decide +kernel
theorem dX14_readString_112 : decode cX14_readString 112 = .ok (.getfield 273, 3) := by decide +kernel
theorem dX14_readString_115 : decode cX14_readString 115 = .ok (.iload_n 3, 1) := by decide +kernel
theorem dX14_readString_116 : decode cX14_readString 116 = .ok (.iadd, 1) := by decide +kernel
theorem dX14_readString_117 : decode cX14_readString 117 = .ok (.putfield 273, 3) := by decide +kernel
theorem dX14_readString_120 : decode cX14_readString 120 = .ok (.goto (-105), 3) := by decide +kernel
theorem dX14_readString_123 : decode cX14_readString 123 = .ok (.aload_n 0, 1) := by decide +kernel
theorem dX14_readString_124 : decode cX14_readString 124 = .ok (.dup, 1) := by decide +kernel
theorem dX14_readString_125 : decode cX14_readString 125 = .ok (.getfield 273, 3) := by decide +kernel
theorem dX14_readString_128 : decode cX14_readString 128 = .ok (.iconst 1, 1) := by decide +kernel
theorem dX14_readString_129 : decode cX14_readString 129 = .ok (.iadd, 1) := by decide +kernel
theorem dX14_readString_130 : decode cX14_readString 130 = .ok (.putfield 273, 3) := by decide +kernel
theorem dX14_readString_133 : decode cX14_readString 133 = .ok (.aload_n 0, 1) := by decide +kernel
theorem dX14_readString_134 : decode cX14_readString 134 = .ok (.iload_n 1, 1) := by decide +kernel
theorem dX14_readString_135 : decode cX14_readString 135 = .ok (.putfield 301, 3) := by decide +kernel
theorem dX14_readString_138 : decode cX14_readString 138 = .ok (.return_, 1) := by decide +kernel
def EX14_escape : List (Nat × Nat) := [(16, 28), (16, 29), (16, 31), (127, 0)]
def EX14_readString : List (Nat × Nat) := [(16, 28), (16, 29), (16, 31), (16, 32), (16, 33), (127, 0)]
set_option maxHeartbeats 4000000 in
set_option maxRecDepth 20000 in
theorem uX14_escape (l : Launch) (dC : Nat → ClassId) (dI : Nat → Nat → Nat) (ca : Nat → ClassId) (base : Nat) (B : jF) (hB : jBok B) (hAp : jAp (dC, dI)) (hB16 : ∀ n G a H, B 16 n G a H ↔ jOb (dC, dI) 16 74 (F16 n G) a H) (hB110 : ∀ n G a H, B 110 n G a H ↔ jAr (dC, dI) (ca 1) (fun j z => 0 ≤ z.toInt ∧ z.toInt ≤ 255) n a H) (hB127 : ∀ n G a H, B 127 n G a H ↔ jAr (dC, dI) (ca 1) (fun j z => True) n a H) (G0 : jT) (H0 : Heap) (r0 : Nat) (pt : Int32) (pe : Int32) (pp : Int32) (pb : Int32) : Met l yX14_escape (jw yX14_escape cX14_escape 6 none) ({ frames := 5, cells := 0, slots := 0, locals := 181 }) (va_Pc [.ref r0] (fun U => U.heap = H0 ∧ jX B base G0 [] H0 ∧ jG dC dI ca base U ∧ G0 r0 = some (16, 0) ∧ jP (dC, dI) G0 H0 [(r0, 16, 29, .int pt), (r0, 16, 30, .int pe), (r0, 16, 28, .int pp), (r0, 16, 31, .int pb)] ∧ 0 ≤ pt.toInt ∧ pt.toInt ≤ 90000 ∧ 0 ≤ pe.toInt ∧ pe.toInt ≤ 3000 ∧ pt.toInt ≤ pe.toInt ∧ 0 ≤ pp.toInt ∧ pp.toInt ≤ 3290 ∧ pb.toInt = 0)) (va_Qv (S := Int32 × Int32 × Int32) (fun u => 0 ≤ u.2.2.toInt ∧ u.2.2.toInt ≤ 1 ∧ pt.toInt + 1 ≤ u.1.toInt + u.2.2.toInt ∧ pt.toInt ≤ u.1.toInt ∧ u.1.toInt ≤ pe.toInt + u.2.2.toInt ∧ pp.toInt ≤ u.2.1.toInt ∧ u.2.1.toInt ≤ pp.toInt + (u.1.toInt - pt.toInt) + u.2.2.toInt) (fun u t => jRt (dC, dI) B base G0 EX14_escape H0 [(r0, 16, 29, .int u.1), (r0, 16, 28, .int u.2.1), (r0, 16, 31, .int u.2.2)] t.heap) (jA base)) 0 0 (jA base) := by
  refine Met.ofW (cc := cX14_escape) (maxL := 6) (ret := none) (by decide) rfl ?_
  intro p e s m args below meth c s₁ Bd hml hv
  obtain ⟨rfl, hH0, hX, hG, hg_r0, hP0, hp0, hp1, hp2, hp3, hp4, hp5, hp6, hp7⟩ := hv
  have hK := hG.1
  have hx := Bd.exec
  have hb := Bd.bytes
  have hr := Bd.returns
  have hts := atoms_spec (ws := (jw yX14_escape cX14_escape 6 none)) Bd.pre
  have htw : ∀ w ∈ jWl, w.before _ s = true := fun w h => hts w (List.mem_cons_of_mem _ h)
  have hown : s.vm.findClass RX14 = some m.cls := findClass_of_methodNamed Bd.named
  have hlocks := Bd.notSynchronized
  obtain ⟨Q, hQ⟩ : ∃ Q, Q = MQ below (va_Qv (S := Int32 × Int32 × Int32) (fun u => 0 ≤ u.2.2.toInt ∧ u.2.2.toInt ≤ 1 ∧ pt.toInt + 1 ≤ u.1.toInt + u.2.2.toInt ∧ pt.toInt ≤ u.1.toInt ∧ u.1.toInt ≤ pe.toInt + u.2.2.toInt ∧ pp.toInt ≤ u.2.1.toInt ∧ u.2.1.toInt ≤ pp.toInt + (u.1.toInt - pt.toInt) + u.2.2.toInt) (fun u t => jRt (dC, dI) B base G0 EX14_escape H0 [(r0, 16, 29, .int u.1), (r0, 16, 28, .int u.2.1), (r0, 16, 31, .int u.2.2)] t.heap) (jA base)) ([.ref r0] : List Value).toArray s 0 0 (jA base) := ⟨_, rfl⟩
  rw [← hQ]
  have hl := lv_entry ([.ref r0]) (n := 6) (Nat.le_of_ble_eq_true rfl)
  rw [lg_entry_eq]
  generalize (lg_sl ([.ref r0]) ++ List.replicate (6 - (lg_sl ([.ref r0])).length) Slot.unset).toArray = ls at hl ⊢
  have hl : lv_has ls 6 [(0, .ref r0)] := hl
  generalize hR : (headSpec (jw yX14_escape cX14_escape 6 none) ({ frames := 5, cells := 0, slots := 0, locals := 181 })).room = R
  subst hH0
  have hh : jSt (dC, dI) B base G0 G0 EX14_escape s.heap 0 0 [(r0, 16, 29, .int pt), (r0, 16, 30, .int pe), (r0, 16, 28, .int pp), (r0, 16, 31, .int pb)] [] [] s.heap [] := jSt.start hX hP0 jMc.nil jIs.nil
  clear hX hP0
  have hkm1 : ((-1) : Int32).toInt = (-1) := by decide
  have hk0 : (0 : Int32).toInt = 0 := by decide
  have hk1 : (1 : Int32).toInt = 1 := by decide
  have hk3 : (3 : Int32).toInt = 3 := by decide
  have hk8 : (8 : Int32).toInt = 8 := by decide
  have hk9 : (9 : Int32).toInt = 9 := by decide
  have hk10 : (10 : Int32).toInt = 10 := by decide
  have hk12 : (12 : Int32).toInt = 12 := by decide
  have hk13 : (13 : Int32).toInt = 13 := by decide
  have hk98 : (98 : Int32).toInt = 98 := by decide
  have hk102 : (102 : Int32).toInt = 102 := by decide
  have hk110 : (110 : Int32).toInt = 110 := by decide
  have hk114 : (114 : Int32).toInt = 114 := by decide
  have hk117 : (117 : Int32).toInt = 117 := by decide
  have hk55296 : (55296 : Int32).toInt = 55296 := by decide
  have hk56319 : (56319 : Int32).toInt = 56319 := by decide
  have hk56320 : (56320 : Int32).toInt = 56320 := by decide
  have hk57343 : (57343 : Int32).toInt = 57343 := by decide
  have hly_16_29 := htw (u_lay RX14 TX14 29) (jWc_wsX140 _ (u_in_lay (by decide)))
  have hly_16_31 := htw (u_lay RX14 TX14 31) (jWc_wsX140 _ (u_in_lay (by decide)))
  have hlk_273 := (htw (.fieldLink RX14 273 "ProofServerModel" "at" "I") (jWr_50 _ (List.mem_of_getElem? (i := 5) rfl)))
  obtain ⟨str337, rstr337, hstr3370⟩ := hG.str (o := RX14) (k := 337) (tx := "\"\\/bfnrt") (List.mem_of_getElem? (i := 2337) (by decide +kernel))
  have hstr337 : jStr base str337 8 s s.heap := hstr3370
  have hcs_185 := htw (.constant RX14 185 56320) (jWr_51 _ (List.mem_of_getElem? (i := 16) rfl))
  have hcs_186 := htw (.constant RX14 186 57343) (jWr_51 _ (List.mem_of_getElem? (i := 17) rfl))
  have hlk_288 := (htw (.fieldLink RX14 288 "ProofServerModel" "bad" "Z") (jWr_50 _ (List.mem_of_getElem? (i := 9) rfl)))
  have hcs_179 := htw (.constant RX14 179 55296) (jWr_51 _ (List.mem_of_getElem? (i := 18) rfl))
  have hcs_180 := htw (.constant RX14 180 56319) (jWr_51 _ (List.mem_of_getElem? (i := 19) rfl))
  obtain ⟨str348, rstr348, hstr3480⟩ := hG.str (o := RX14) (k := 348) (tx := "\\u") (List.mem_of_getElem? (i := 2356) (by decide +kernel))
  have hstr348 : jStr base str348 2 s s.heap := hstr3480
  refine lv_aload_n hx hb dX14_escape_0 rfl (lv_at hl 0 rfl) ?_
  refine va_calli (A0 := jA base) (H0 := s.heap) (va_runV (As := []) (rest := []) ⟨hx, hb, hml, hown, hts⟩ (uX14_here l dC dI ca base B hB hAp hB16 hB110 G0 s.heap r0 pt pe) (cwV 0 hts (jgV (jWr_50 _ (List.mem_of_getElem? (i := 20) rfl)) (jWr_50 _ (List.mem_of_getElem? (i := 21) rfl)) (jWr_50 _ (List.mem_of_getElem? (i := 22) rfl)) (jWr_1 _ (List.mem_of_getElem? (i := 5) rfl)) (jWr_50 _ (List.mem_of_getElem? (i := 23) rfl))) rfl rfl rfl (by decide +kernel) ⟨by rw [← hR]; exact Nat.le_of_ble_eq_true rfl, by rw [← hR]; exact Nat.le_of_ble_eq_true rfl⟩) ⟨fun a U g mk q => by obtain ⟨q0, q1, q2, qK, q10, q11, q12⟩ := q; exact ⟨q0, q1, q2, jG.calling g mk a qK, q10, q11, q12⟩, hh.recv (C := RX14) (T := TX14) (N := 74) hB16 rfl (by decide) hg_r0 hK, fun U hU hW => ⟨rfl, hU, hh.2.1, hG.step hW hU hh.1, hg_r0, (hh.2.2.1.sub (L1 := [(r0, 16, 29, .int pt), (r0, 16, 30, .int pe)]) [0, 1] rfl), by first | omega | (refine ⟨?_, ?_, ?_, ?_⟩ <;> (first | omega | rfl | assumption | decide | exact Or.inl rfl | exact Or.inr rfl | (simp only; omega)))⟩⟩ rfl rfl hl.1 rfl (lv_room (Nat.le_of_ble_eq_true rfl)) dX14_escape_1 ⟨Nat.zero_le _, Nat.zero_le _⟩) hh.1 (fun q _ h => h) (fun q h => h) (fun r_2 u_1 t_1 H_1 locs_1 ht_1 hvm_1 hr_2 hb_1 hz_1 hk_1 hS_1 => ?_)
  rw [ht_1] at hb_1
  obtain ⟨hb_11, hb_12, hb_13, hb_14, hb_15⟩ := hb_1
  have hh_1 : jSt (dC, dI) B base G0 G0 EX14_escape s.heap 0 0 [(r0, 16, 29, .int pt), (r0, 16, 30, .int pe), (r0, 16, 28, .int pp), (r0, 16, 31, .int pb)] [] [] H_1 locs_1 := ((hh.call hb_11 hb_12 hb_13 hb_14 hS_1 rfl (L1 := [(r0, 16, 29, .int pt), (r0, 16, 30, .int pe), (r0, 16, 28, .int pp), (r0, 16, 31, .int pb)]) [0, 1, 2, 3] rfl rfl (M1 := []) [] rfl rfl (I1 := []) [] rfl rfl).more hb_15)
  clear hh ht_1 hvm_1 hz_1 hk_1 hS_1 hb_11 hb_12 hb_13 hb_14 hb_15
  obtain ⟨hr_2_0, hr_2_1, hr_2_2⟩ := hr_2
  refine lv_istore_n (lv' := [(1, .int r_2), (0, .ref r0)]) hx hb dX14_escape_4 rfl hl (by decide) rfl (fun ls hl => ?_)
  refine lv_aload_n hx hb dX14_escape_5 rfl (lv_at hl 1 rfl) ?_
  refine lv_dup hx hb dX14_escape_6 rfl ?_
  refine j7_read hx hb hown hK (C := RX14) (T := TX14) (N := 74) rfl hly_16_29 hlk_273 (hh_1.at 0 rfl) dX14_escape_7 ?_
  refine lv_iconst (v := 1) hx hb dX14_escape_10 (by decide) ?_
  refine lv_iadd hx hb dX14_escape_11 ?_
  refine lv_topi (fun z_3 ez_3 => ?_)
  have hz_3 : z_3.toInt = pt.toInt + 1 := by rw [ez_3]; exact jb_iadd2 (rfl) ((by decide)) (by omega)
  refine j7_put hx hb hown hK hh_1 hB hAp hB16 (C := RX14) (T := TX14) (N := 74) rfl (by decide) hg_r0 (i := 29) (by decide) hly_16_29 rfl hlk_273 rfl (ty := .int) (v := .int z_3) (by decide +kernel) rfl rfl (⟨_, rfl, by omega, by omega⟩) rfl (L1 := [(r0, 16, 30, .int pe), (r0, 16, 28, .int pp), (r0, 16, 31, .int pb)]) [1, 2, 3] rfl rfl rfl dX14_escape_12 (fun H_4 locs_4 hh_4 => ?_)
  clear hh_1
  refine j_ldcSw hx hb hown rstr337 dX14_escape_15 ?_
  refine lv_astore_n (lv' := [(2, .ref str337), (1, .int r_2), (0, .ref r0)]) hx hb dX14_escape_18 rfl hl (by decide) rfl (fun ls hl => ?_)
  refine lv_iload_n hx hb dX14_escape_19 rfl (lv_at hl 1 rfl) ?_
  have C32 : ∀ (w0_5 : Int32) (H_5 : Heap) (locs_5 : List Loc), jSt (dC, dI) B base G0 G0 EX14_escape s.heap 0 0 [(r0, 16, 29, .int z_3), (r0, 16, 30, .int pe), (r0, 16, 28, .int pp), (r0, 16, 31, .int pb)] [] [] H_5 locs_5 → (-1 ≤ w0_5.toInt ∧ (r_2.toInt = -1 ∨ pt.toInt < pe.toInt) ∧ (w0_5.toInt = -1 ∨ 0 ≤ r_2.toInt)) → ∀ ls : Array Slot, lv_has ls 6 [(0, .ref r0), (1, .int r_2), (2, .ref str337)] → W p l e R s m ([.ref r0] : List Value).toArray below meth c H_5 locs_5 0 0 Q (F0 m 32 ls [.int w0_5]) := by
    intro w0_5 H_5 locs_5 hh_5  hi_5 ls hl
    obtain ⟨hi_5_0, hi_5_1, hi_5_2⟩ := hi_5
    try clear hr_2_2
    refine lv_istore_n (lv' := [(3, .int w0_5), (0, .ref r0), (1, .int r_2), (2, .ref str337)]) hx hb dX14_escape_32 rfl hl (by decide) rfl (fun ls hl => ?_)
    refine lv_iload_n hx hb dX14_escape_33 rfl (lv_at hl 0 rfl) ?_
    refine lv_if_lt (tgt := 97) hx hb dX14_escape_34 (by decide) (fun c_6 => ?_) (fun c_6 => ?_)
    · skip
      have c_6' : w0_5.toInt < 0 := jb_lt (rfl) ((by decide)) c_6
      refine lv_iload_n hx hb dX14_escape_97 rfl (lv_at hl 2 rfl) ?_
      refine lv_bipush (v := 117) hx hb dX14_escape_98 (by decide) ?_
      refine lv_icmp_ne (tgt := 110) hx hb dX14_escape_100 (by decide) (fun c_7 => ?_) (fun c_7 => ?_)
      · skip
        have c_7' : r_2.toInt ≠ 117 := jb_ne (rfl) ((by decide)) c_7
        refine lv_iconst (v := (-1)) hx hb dX14_escape_110 (by decide) ?_
        refine lv_istore (lv' := [(4, .int (-1)), (3, .int w0_5), (0, .ref r0), (1, .int r_2), (2, .ref str337)]) hx hb dX14_escape_111 hl (by decide) rfl (fun ls hl => ?_)
        refine lv_iload hx hb dX14_escape_113 (lv_at hl 0 rfl) ?_
        refine lv_if_lt (tgt := 130) hx hb dX14_escape_115 (by decide) (fun c_8 => ?_) (fun c_8 => ?_)
        · skip
          refine lv_aload_n hx hb dX14_escape_130 rfl (lv_at hl 2 rfl) ?_
          refine lv_iconst (v := 1) hx hb dX14_escape_131 (by decide) ?_
          refine j7_put hx hb hown hK hh_5 hB hAp hB16 (C := RX14) (T := TX14) (N := 74) rfl (by decide) hg_r0 (i := 31) (by decide) hly_16_31 rfl hlk_288 rfl (ty := .boolean) (v := .int 1) (by decide +kernel) (jb_nz (Or.inr rfl)) (jb_fz (Or.inr rfl)) (⟨_, rfl, (Or.inr rfl)⟩) rfl (L1 := [(r0, 16, 29, .int z_3), (r0, 16, 30, .int pe), (r0, 16, 28, .int pp)]) [0, 1, 2] rfl rfl rfl dX14_escape_132 (fun H_9 locs_9 hh_9 => ?_)
          clear hh_5
          rw [hQ]
          exact W.vret hx hb hr (fun t ht hW => ⟨⟨(z_3, pp, 1), rfl, by first | omega | (refine ⟨?_, ?_, ?_, ?_, ?_, ?_, ?_⟩ <;> (first | omega | rfl | assumption | decide | exact Or.inl rfl | exact Or.inr rfl | (simp only; omega))), hh_9.rt (M1 := [(r0, 16, 29, .int z_3), (r0, 16, 28, .int pp), (r0, 16, 31, .int 1)]) [1, 3, 0] rfl ht⟩, by rw [ht]; try exact hh_9.1.1, fun q h9 hq => by rw [ht]; try exact hh_9.1.2.1 q h9 hq⟩) hh_9.1.2.2 dX14_escape_135
        · skip
          exact absurd c_8 (by decide)
      · skip
        have c_7' : r_2.toInt = 117 := jb_ne_n (rfl) ((by decide)) c_7
        refine lv_aload_n hx hb dX14_escape_103 rfl (lv_at hl 1 rfl) ?_
        refine va_calli (A0 := jA base) (H0 := s.heap) (va_runV (As := []) (rest := []) ⟨hx, hb, hml, hown, hts⟩ (uX14_four l dC dI ca base B hB hAp hB16 hB110 G0 H_5 r0 z_3 pe) (cwV 0 hts (jgV (jWr_52 _ (List.mem_of_getElem? (i := 3) rfl)) (jWr_52 _ (List.mem_of_getElem? (i := 4) rfl)) (jWr_52 _ (List.mem_of_getElem? (i := 5) rfl)) (jWr_1 _ (List.mem_of_getElem? (i := 5) rfl)) (jWr_52 _ (List.mem_of_getElem? (i := 6) rfl))) rfl rfl rfl (by decide +kernel) ⟨by rw [← hR]; exact Nat.le_of_ble_eq_true rfl, by rw [← hR]; exact Nat.le_of_ble_eq_true rfl⟩) ⟨fun a U g mk q => by obtain ⟨q0, q1, q2, qK, q10, q11, q12⟩ := q; exact ⟨q0, q1, q2, jG.calling g mk a qK, q10, q11, q12⟩, hh_5.recv (C := RX14) (T := TX14) (N := 74) hB16 rfl (by decide) hg_r0 hK, fun U hU hW => ⟨rfl, hU, hh_5.2.1, hG.step hW hU hh_5.1, hg_r0, (hh_5.2.2.1.sub (L1 := [(r0, 16, 29, .int z_3), (r0, 16, 30, .int pe)]) [0, 1] rfl), by first | omega | (refine ⟨?_, ?_, ?_, ?_, ?_⟩ <;> (first | omega | rfl | assumption | decide | exact Or.inl rfl | exact Or.inr rfl | (simp only; omega)))⟩⟩ rfl rfl hl.1 rfl (lv_room (Nat.le_of_ble_eq_true rfl)) dX14_escape_104 ⟨Nat.zero_le _, Nat.zero_le _⟩) hh_5.1 (fun q _ h => h) (fun q h => h) (fun r_11 u_10 t_10 H_10 locs_10 ht_10 hvm_10 hr_11 hb_10 hz_10 hk_10 hS_10 => ?_)
        obtain ⟨qt_10, rfl⟩ : ∃ z, z = u_10 := ⟨_, rfl⟩
        rw [ht_10] at hb_10
        obtain ⟨hb_101, hb_102, hb_103, hb_104, hb_105⟩ := hb_10
        have hh_10 : jSt (dC, dI) B base G0 G0 EX14_escape s.heap 0 0 [(r0, 16, 29, .int qt_10), (r0, 16, 30, .int pe), (r0, 16, 28, .int pp)] [] [] H_10 locs_10 := ((hh_5.call hb_101 hb_102 hb_103 hb_104 hS_10 rfl (L1 := [(r0, 16, 30, .int pe), (r0, 16, 28, .int pp)]) [1, 2] rfl rfl (M1 := []) [] rfl rfl (I1 := []) [] rfl rfl).more hb_105)
        clear hh_5 ht_10 hvm_10 hz_10 hk_10 hS_10 hb_101 hb_102 hb_103 hb_104 hb_105
        obtain ⟨hr_11_0, hr_11_1, hr_11_2, hr_11_3⟩ := hr_11
        refine lv_goto (tgt := 111) hx hb dX14_escape_107 (by decide) ?_
        refine lv_istore (lv' := [(4, .int r_11), (3, .int w0_5), (0, .ref r0), (1, .int r_2), (2, .ref str337)]) hx hb dX14_escape_111 hl (by decide) rfl (fun ls hl => ?_)
        refine lv_iload hx hb dX14_escape_113 (lv_at hl 0 rfl) ?_
        refine lv_if_lt (tgt := 130) hx hb dX14_escape_115 (by decide) (fun c_12 => ?_) (fun c_12 => ?_)
        · skip
          have c_12' : r_11.toInt < 0 := jb_lt (rfl) ((by decide)) c_12
          refine lv_aload_n hx hb dX14_escape_130 rfl (lv_at hl 2 rfl) ?_
          refine lv_iconst (v := 1) hx hb dX14_escape_131 (by decide) ?_
          refine j7_put hx hb hown hK hh_10 hB hAp hB16 (C := RX14) (T := TX14) (N := 74) rfl (by decide) hg_r0 (i := 31) (by decide) hly_16_31 rfl hlk_288 rfl (ty := .boolean) (v := .int 1) (by decide +kernel) (jb_nz (Or.inr rfl)) (jb_fz (Or.inr rfl)) (⟨_, rfl, (Or.inr rfl)⟩) rfl (L1 := [(r0, 16, 29, .int qt_10), (r0, 16, 30, .int pe), (r0, 16, 28, .int pp)]) [0, 1, 2] rfl rfl rfl dX14_escape_132 (fun H_13 locs_13 hh_13 => ?_)
          clear hh_10
          rw [hQ]
          exact W.vret hx hb hr (fun t ht hW => ⟨⟨(qt_10, pp, 1), rfl, by first | omega | (refine ⟨?_, ?_, ?_, ?_, ?_, ?_, ?_⟩ <;> (first | omega | rfl | assumption | decide | exact Or.inl rfl | exact Or.inr rfl | (simp only; omega))), hh_13.rt (M1 := [(r0, 16, 29, .int qt_10), (r0, 16, 28, .int pp), (r0, 16, 31, .int 1)]) [1, 3, 0] rfl ht⟩, by rw [ht]; try exact hh_13.1.1, fun q h9 hq => by rw [ht]; try exact hh_13.1.2.1 q h9 hq⟩) hh_13.1.2.2 dX14_escape_135
        · skip
          have c_12' : r_11.toInt ≥ 0 := jb_lt_n (rfl) ((by decide)) c_12
          refine lv_iload hx hb dX14_escape_118 (lv_at hl 0 rfl) ?_
          refine lv_ldc hx hb hown hcs_185 dX14_escape_120 ?_
          refine lv_ldc hx hb hown hcs_186 dX14_escape_122 ?_
          refine va_calli (A0 := jA base) (H0 := s.heap) (va_runS (As := [.int r_11, .int 56320, .int 57343]) (rest := []) ⟨hx, hb, hml, hown, hts⟩ (uX14_in l dC dI ca base B hB hAp G0 H_10 r_11 56320 57343) (va_cwS 3 hts (jgS (jWr_48 _ (List.mem_of_getElem? (i := 10) rfl)) (jWr_48 _ (List.mem_of_getElem? (i := 11) rfl)) (jWr_1 _ (List.mem_of_getElem? (i := 5) rfl)) (jWr_48 _ (List.mem_of_getElem? (i := 12) rfl))) rfl rfl rfl (by decide +kernel) ⟨by rw [← hR]; exact Nat.le_of_ble_eq_true rfl, by rw [← hR]; exact Nat.le_of_ble_eq_true rfl⟩) ⟨fun a U g mk q => by obtain ⟨q0, q1, q2, qK, q10, q11⟩ := q; exact ⟨q0, q1, q2, jG.calling g mk a qK, q10, q11⟩, fun U hU hW => ⟨rfl, hU, hh_10.2.1, hG.step hW hU hh_10.1, jP.nil, trivial⟩⟩ rfl rfl hl.1 rfl (lv_room (Nat.le_of_ble_eq_true rfl)) dX14_escape_124 ⟨Nat.zero_le _, Nat.zero_le _⟩) hh_10.1 (fun q _ h => h) (fun q h => h) (fun r_15 u_14 t_14 H_14 locs_14 ht_14 hvm_14 hr_15 hb_14 hz_14 hk_14 hS_14 => ?_)
          rw [ht_14] at hb_14
          obtain ⟨hb_141, hb_142, hb_143, hb_144, hb_145⟩ := hb_14
          have hh_14 : jSt (dC, dI) B base G0 G0 EX14_escape s.heap 0 0 [(r0, 16, 29, .int qt_10), (r0, 16, 30, .int pe), (r0, 16, 28, .int pp)] [] [] H_14 locs_14 := ((hh_10.call hb_141 hb_142 hb_143 hb_144 hS_14 rfl (L1 := [(r0, 16, 29, .int qt_10), (r0, 16, 30, .int pe), (r0, 16, 28, .int pp)]) [0, 1, 2] rfl rfl (M1 := []) [] rfl rfl (I1 := []) [] rfl rfl).more hb_145)
          clear hh_10 ht_14 hvm_14 hz_14 hk_14 hS_14 hb_141 hb_142 hb_143 hb_144 hb_145
          obtain ⟨hr_15b, hr_15p⟩ := hr_15
          obtain ⟨hr_15p_0, hr_15p_1, hr_15p_2⟩ := hr_15p
          have hr_15' := jb_01 hr_15b
          refine lv_if_eq (tgt := 136) hx hb dX14_escape_127 (by decide) (fun c_16 => ?_) (fun c_16 => ?_)
          · skip
            have c_16' : r_15.toInt = 0 := jb_eq (rfl) ((by decide)) c_16
            refine lv_iload hx hb dX14_escape_136 (lv_at hl 0 rfl) ?_
            refine lv_ldc hx hb hown hcs_179 dX14_escape_138 ?_
            refine lv_ldc hx hb hown hcs_180 dX14_escape_140 ?_
            refine va_calli (A0 := jA base) (H0 := s.heap) (va_runS (As := [.int r_11, .int 55296, .int 56319]) (rest := []) ⟨hx, hb, hml, hown, hts⟩ (uX14_in l dC dI ca base B hB hAp G0 H_14 r_11 55296 56319) (va_cwS 3 hts (jgS (jWr_48 _ (List.mem_of_getElem? (i := 10) rfl)) (jWr_48 _ (List.mem_of_getElem? (i := 11) rfl)) (jWr_1 _ (List.mem_of_getElem? (i := 5) rfl)) (jWr_48 _ (List.mem_of_getElem? (i := 12) rfl))) rfl rfl rfl (by decide +kernel) ⟨by rw [← hR]; exact Nat.le_of_ble_eq_true rfl, by rw [← hR]; exact Nat.le_of_ble_eq_true rfl⟩) ⟨fun a U g mk q => by obtain ⟨q0, q1, q2, qK, q10, q11⟩ := q; exact ⟨q0, q1, q2, jG.calling g mk a qK, q10, q11⟩, fun U hU hW => ⟨rfl, hU, hh_14.2.1, hG.step hW hU hh_14.1, jP.nil, trivial⟩⟩ rfl rfl hl.1 rfl (lv_room (Nat.le_of_ble_eq_true rfl)) dX14_escape_142 ⟨Nat.zero_le _, Nat.zero_le _⟩) hh_14.1 (fun q _ h => h) (fun q h => h) (fun r_18 u_17 t_17 H_17 locs_17 ht_17 hvm_17 hr_18 hb_17 hz_17 hk_17 hS_17 => ?_)
            rw [ht_17] at hb_17
            obtain ⟨hb_171, hb_172, hb_173, hb_174, hb_175⟩ := hb_17
            have hh_17 : jSt (dC, dI) B base G0 G0 EX14_escape s.heap 0 0 [(r0, 16, 29, .int qt_10), (r0, 16, 30, .int pe), (r0, 16, 28, .int pp)] [] [] H_17 locs_17 := ((hh_14.call hb_171 hb_172 hb_173 hb_174 hS_17 rfl (L1 := [(r0, 16, 29, .int qt_10), (r0, 16, 30, .int pe), (r0, 16, 28, .int pp)]) [0, 1, 2] rfl rfl (M1 := []) [] rfl rfl (I1 := []) [] rfl rfl).more hb_175)
            clear hh_14 ht_17 hvm_17 hz_17 hk_17 hS_17 hb_171 hb_172 hb_173 hb_174 hb_175
            obtain ⟨hr_18b, hr_18p⟩ := hr_18
            obtain ⟨hr_18p_0, hr_18p_1, hr_18p_2⟩ := hr_18p
            have hr_18' := jb_01 hr_18b
            refine lv_if_ne (tgt := 155) hx hb dX14_escape_145 (by decide) (fun c_19 => ?_) (fun c_19 => ?_)
            · skip
              have c_19' : r_18.toInt ≠ 0 := jb_ne (rfl) ((by decide)) c_19
              refine lv_aload_n hx hb dX14_escape_155 rfl (lv_at hl 2 rfl) ?_
              refine j_ldcSw hx hb hown rstr348 dX14_escape_156 ?_
              refine va_calli (A0 := jA base) (H0 := s.heap) (va_runV (As := [.ref str348]) (rest := []) ⟨hx, hb, hml, hown, hts⟩ (uX14_takes l dC dI ca base B hB hAp hB16 hB110 G0 H_17 r0 str348 2 qt_10 pe) (cwV 1 hts (jgV (jWr_52 _ (List.mem_of_getElem? (i := 10) rfl)) (jWr_52 _ (List.mem_of_getElem? (i := 11) rfl)) (jWr_52 _ (List.mem_of_getElem? (i := 12) rfl)) (jWr_1 _ (List.mem_of_getElem? (i := 5) rfl)) (jWr_52 _ (List.mem_of_getElem? (i := 13) rfl))) rfl rfl rfl (by decide +kernel) ⟨by rw [← hR]; exact Nat.le_of_ble_eq_true rfl, by rw [← hR]; exact Nat.le_of_ble_eq_true rfl⟩) ⟨fun a U g mk q => by obtain ⟨q0, q1, q2, qK, q10, q11, q12, q13⟩ := q; exact ⟨q0, q1, q2, jG.calling g mk a qK, (q10.moved (Vm.Alike.refl U.vm)), q11, q12, q13⟩, hh_17.recv (C := RX14) (T := TX14) (N := 74) hB16 rfl (by decide) hg_r0 hK, fun U hU hW => ⟨rfl, hU, hh_17.2.1, hG.step hW hU hh_17.1, (hstr348.moved hW.alike).kept hh_17.1.2.1, hg_r0, (hh_17.2.2.1.sub (L1 := [(r0, 16, 29, .int qt_10), (r0, 16, 30, .int pe)]) [0, 1] rfl), by first | omega | (refine ⟨?_, ?_, ?_, ?_, ?_, ?_, ?_⟩ <;> (first | omega | rfl | assumption | decide | exact Or.inl rfl | exact Or.inr rfl | (simp only; omega)))⟩⟩ rfl rfl hl.1 rfl (lv_room (Nat.le_of_ble_eq_true rfl)) dX14_escape_159 ⟨Nat.zero_le _, Nat.zero_le _⟩) hh_17.1 (fun q _ h => h) (fun q h => h) (fun r_21 u_20 t_20 H_20 locs_20 ht_20 hvm_20 hr_21 hb_20 hz_20 hk_20 hS_20 => ?_)
              obtain ⟨qt_20, rfl⟩ : ∃ z, z = u_20 := ⟨_, rfl⟩
              rw [ht_20] at hb_20
              obtain ⟨hb_201, hb_202, hb_203, hb_204, hb_205⟩ := hb_20
              have hh_20 : jSt (dC, dI) B base G0 G0 EX14_escape s.heap 0 0 [(r0, 16, 29, .int qt_20), (r0, 16, 30, .int pe), (r0, 16, 28, .int pp)] [] [] H_20 locs_20 := ((hh_17.call hb_201 hb_202 hb_203 hb_204 hS_20 rfl (L1 := [(r0, 16, 30, .int pe), (r0, 16, 28, .int pp)]) [1, 2] rfl rfl (M1 := []) [] rfl rfl (I1 := []) [] rfl rfl).more hb_205)
              clear hh_17 ht_20 hvm_20 hz_20 hk_20 hS_20 hb_201 hb_202 hb_203 hb_204 hb_205
              obtain ⟨hr_21b, hr_21p⟩ := hr_21
              obtain ⟨hr_21p_0, hr_21p_1, hr_21p_2⟩ := hr_21p
              have hr_21' := jb_01 hr_21b
              refine lv_if_eq (tgt := 172) hx hb dX14_escape_162 (by decide) (fun c_22 => ?_) (fun c_22 => ?_)
              · skip
                have c_22' : r_21.toInt = 0 := jb_eq (rfl) ((by decide)) c_22
                refine lv_iconst (v := (-1)) hx hb dX14_escape_172 (by decide) ?_
                refine lv_istore (lv' := [(5, .int (-1)), (4, .int r_11), (3, .int w0_5), (0, .ref r0), (1, .int r_2), (2, .ref str337)]) hx hb dX14_escape_173 hl (by decide) rfl (fun ls hl => ?_)
                refine lv_iload hx hb dX14_escape_175 (lv_at hl 0 rfl) ?_
                refine lv_ldc hx hb hown hcs_185 dX14_escape_177 ?_
                refine lv_ldc hx hb hown hcs_186 dX14_escape_179 ?_
                refine va_calli (A0 := jA base) (H0 := s.heap) (va_runS (As := [.int (-1), .int 56320, .int 57343]) (rest := []) ⟨hx, hb, hml, hown, hts⟩ (uX14_in l dC dI ca base B hB hAp G0 H_20 (-1) 56320 57343) (va_cwS 3 hts (jgS (jWr_48 _ (List.mem_of_getElem? (i := 10) rfl)) (jWr_48 _ (List.mem_of_getElem? (i := 11) rfl)) (jWr_1 _ (List.mem_of_getElem? (i := 5) rfl)) (jWr_48 _ (List.mem_of_getElem? (i := 12) rfl))) rfl rfl rfl (by decide +kernel) ⟨by rw [← hR]; exact Nat.le_of_ble_eq_true rfl, by rw [← hR]; exact Nat.le_of_ble_eq_true rfl⟩) ⟨fun a U g mk q => by obtain ⟨q0, q1, q2, qK, q10, q11⟩ := q; exact ⟨q0, q1, q2, jG.calling g mk a qK, q10, q11⟩, fun U hU hW => ⟨rfl, hU, hh_20.2.1, hG.step hW hU hh_20.1, jP.nil, trivial⟩⟩ rfl rfl hl.1 rfl (lv_room (Nat.le_of_ble_eq_true rfl)) dX14_escape_181 ⟨Nat.zero_le _, Nat.zero_le _⟩) hh_20.1 (fun q _ h => h) (fun q h => h) (fun r_24 u_23 t_23 H_23 locs_23 ht_23 hvm_23 hr_24 hb_23 hz_23 hk_23 hS_23 => ?_)
                rw [ht_23] at hb_23
                obtain ⟨hb_231, hb_232, hb_233, hb_234, hb_235⟩ := hb_23
                have hh_23 : jSt (dC, dI) B base G0 G0 EX14_escape s.heap 0 0 [(r0, 16, 29, .int qt_20), (r0, 16, 30, .int pe), (r0, 16, 28, .int pp)] [] [] H_23 locs_23 := ((hh_20.call hb_231 hb_232 hb_233 hb_234 hS_23 rfl (L1 := [(r0, 16, 29, .int qt_20), (r0, 16, 30, .int pe), (r0, 16, 28, .int pp)]) [0, 1, 2] rfl rfl (M1 := []) [] rfl rfl (I1 := []) [] rfl rfl).more hb_235)
                clear hh_20 ht_23 hvm_23 hz_23 hk_23 hS_23 hb_231 hb_232 hb_233 hb_234 hb_235
                obtain ⟨hr_24b, hr_24p⟩ := hr_24
                obtain ⟨hr_24p_0, hr_24p_1, hr_24p_2⟩ := hr_24p
                have hr_24' := jb_01 hr_24b
                refine lv_if_ne (tgt := 193) hx hb dX14_escape_184 (by decide) (fun c_25 => ?_) (fun c_25 => ?_)
                · skip
                  have c_25' : r_24.toInt ≠ 0 := jb_ne (rfl) ((by decide)) c_25
                  refine lv_aload_n hx hb dX14_escape_193 rfl (lv_at hl 3 rfl) ?_
                  refine lv_iload hx hb dX14_escape_194 (lv_at hl 1 rfl) ?_
                  refine va_callv (A0 := jA base) (H0 := s.heap) (va_runV (As := [.int r_11]) (rest := []) ⟨hx, hb, hml, hown, hts⟩ (uX14_unit l dC dI ca base B hB hAp hB16 hB127 G0 H_23 r0 r_11 pp) (cwV 1 hts (jgV (jWr_51 _ (List.mem_of_getElem? (i := 21) rfl)) (jWr_51 _ (List.mem_of_getElem? (i := 22) rfl)) (jWr_51 _ (List.mem_of_getElem? (i := 23) rfl)) (jWr_1 _ (List.mem_of_getElem? (i := 5) rfl)) (jWr_52 _ (List.mem_of_getElem? (i := 0) rfl))) rfl rfl rfl (by decide +kernel) ⟨by rw [← hR]; exact Nat.le_of_ble_eq_true rfl, by rw [← hR]; exact Nat.le_of_ble_eq_true rfl⟩) ⟨fun a U g mk q => by obtain ⟨q0, q1, q2, qK, q10, q11, q12⟩ := q; exact ⟨q0, q1, q2, jG.calling g mk a qK, q10, q11, q12⟩, hh_23.recv (C := RX14) (T := TX14) (N := 74) hB16 rfl (by decide) hg_r0 hK, fun U hU hW => ⟨rfl, hU, hh_23.2.1, hG.step hW hU hh_23.1, hg_r0, (hh_23.2.2.1.sub (L1 := [(r0, 16, 28, .int pp)]) [2] rfl), by first | omega | (refine ⟨?_, ?_⟩ <;> (first | omega | rfl | assumption | decide | exact Or.inl rfl | exact Or.inr rfl | (simp only; omega)))⟩⟩ rfl rfl hl.1 rfl (lv_room (Nat.le_of_ble_eq_true rfl)) dX14_escape_196 ⟨Nat.zero_le _, Nat.zero_le _⟩) hh_23.1 (fun q _ h => h) (fun q h => h) (fun u_26 t_26 H_26 locs_26 ht_26 hvm_26 hr_27 hb_26 hz_26 hk_26 hS_26 => ?_)
                  obtain ⟨qp_26, rfl⟩ : ∃ z, z = u_26 := ⟨_, rfl⟩
                  rw [ht_26] at hb_26
                  obtain ⟨hb_261, hb_262, hb_263, hb_264, hb_265⟩ := hb_26
                  have hh_26 : jSt (dC, dI) B base G0 G0 EX14_escape s.heap 0 0 [(r0, 16, 28, .int qp_26), (r0, 16, 29, .int qt_20), (r0, 16, 30, .int pe)] [] [] H_26 locs_26 := ((hh_23.call hb_261 hb_262 hb_263 hb_264 hS_26 rfl (L1 := [(r0, 16, 29, .int qt_20), (r0, 16, 30, .int pe)]) [0, 1] rfl rfl (M1 := []) [] rfl rfl (I1 := []) [] rfl rfl).more hb_265)
                  clear hh_23 ht_26 hvm_26 hz_26 hk_26 hS_26 hb_261 hb_262 hb_263 hb_264 hb_265
                  obtain ⟨hr_27_0, hr_27_1, hr_27_2⟩ := hr_27
                  refine lv_aload_n hx hb dX14_escape_199 rfl (lv_at hl 3 rfl) ?_
                  refine lv_iload hx hb dX14_escape_200 (lv_at hl 0 rfl) ?_
                  refine va_callv (A0 := jA base) (H0 := s.heap) (va_runV (As := [.int (-1)]) (rest := []) ⟨hx, hb, hml, hown, hts⟩ (uX14_unit l dC dI ca base B hB hAp hB16 hB127 G0 H_26 r0 (-1) qp_26) (cwV 1 hts (jgV (jWr_51 _ (List.mem_of_getElem? (i := 21) rfl)) (jWr_51 _ (List.mem_of_getElem? (i := 22) rfl)) (jWr_51 _ (List.mem_of_getElem? (i := 23) rfl)) (jWr_1 _ (List.mem_of_getElem? (i := 5) rfl)) (jWr_52 _ (List.mem_of_getElem? (i := 0) rfl))) rfl rfl rfl (by decide +kernel) ⟨by rw [← hR]; exact Nat.le_of_ble_eq_true rfl, by rw [← hR]; exact Nat.le_of_ble_eq_true rfl⟩) ⟨fun a U g mk q => by obtain ⟨q0, q1, q2, qK, q10, q11, q12⟩ := q; exact ⟨q0, q1, q2, jG.calling g mk a qK, q10, q11, q12⟩, hh_26.recv (C := RX14) (T := TX14) (N := 74) hB16 rfl (by decide) hg_r0 hK, fun U hU hW => ⟨rfl, hU, hh_26.2.1, hG.step hW hU hh_26.1, hg_r0, (hh_26.2.2.1.sub (L1 := [(r0, 16, 28, .int qp_26)]) [0] rfl), by first | omega | (refine ⟨?_, ?_⟩ <;> (first | omega | rfl | assumption | decide | exact Or.inl rfl | exact Or.inr rfl | (simp only; omega)))⟩⟩ rfl rfl hl.1 rfl (lv_room (Nat.le_of_ble_eq_true rfl)) dX14_escape_202 ⟨Nat.zero_le _, Nat.zero_le _⟩) hh_26.1 (fun q _ h => h) (fun q h => h) (fun u_28 t_28 H_28 locs_28 ht_28 hvm_28 hr_29 hb_28 hz_28 hk_28 hS_28 => ?_)
                  obtain ⟨qp_28, rfl⟩ : ∃ z, z = u_28 := ⟨_, rfl⟩
                  rw [ht_28] at hb_28
                  obtain ⟨hb_281, hb_282, hb_283, hb_284, hb_285⟩ := hb_28
                  have hh_28 : jSt (dC, dI) B base G0 G0 EX14_escape s.heap 0 0 [(r0, 16, 28, .int qp_28), (r0, 16, 29, .int qt_20), (r0, 16, 30, .int pe)] [] [] H_28 locs_28 := ((hh_26.call hb_281 hb_282 hb_283 hb_284 hS_28 rfl (L1 := [(r0, 16, 29, .int qt_20), (r0, 16, 30, .int pe)]) [1, 2] rfl rfl (M1 := []) [] rfl rfl (I1 := []) [] rfl rfl).more hb_285)
                  clear hh_26 ht_28 hvm_28 hz_28 hk_28 hS_28 hb_281 hb_282 hb_283 hb_284 hb_285
                  obtain ⟨hr_29_0, hr_29_1, hr_29_2⟩ := hr_29
                  rw [hQ]
                  obtain ⟨v_30, hv_30, hh_31⟩ := hh_28.pin (C := RX14) (T := TX14) (N := 74) hB16 rfl (by decide) hg_r0 (i := 31) (by decide) rfl
                  obtain ⟨bad_32, rfl, hzbad_32⟩ := hv_30
                  have hzbad_32' := jb_01 hzbad_32
                  exact W.vret hx hb hr (fun t ht hW => ⟨⟨(qt_20, qp_28, bad_32), rfl, by first | omega | (refine ⟨?_, ?_, ?_, ?_, ?_, ?_, ?_⟩ <;> (first | omega | rfl | assumption | decide | exact Or.inl rfl | exact Or.inr rfl | (simp only; omega))), hh_31.rt (M1 := [(r0, 16, 29, .int qt_20), (r0, 16, 28, .int qp_28), (r0, 16, 31, .int bad_32)]) [2, 1, 0] rfl ht⟩, by rw [ht]; try exact hh_31.1.1, fun q h9 hq => by rw [ht]; try exact hh_31.1.2.1 q h9 hq⟩) hh_31.1.2.2 dX14_escape_205
                · skip
                  have c_25' : r_24.toInt = 0 := jb_ne_n (rfl) ((by decide)) c_25
                  refine lv_aload_n hx hb dX14_escape_187 rfl (lv_at hl 3 rfl) ?_
                  refine lv_iconst (v := 1) hx hb dX14_escape_188 (by decide) ?_
                  refine j7_put hx hb hown hK hh_23 hB hAp hB16 (C := RX14) (T := TX14) (N := 74) rfl (by decide) hg_r0 (i := 31) (by decide) hly_16_31 rfl hlk_288 rfl (ty := .boolean) (v := .int 1) (by decide +kernel) (jb_nz (Or.inr rfl)) (jb_fz (Or.inr rfl)) (⟨_, rfl, (Or.inr rfl)⟩) rfl (L1 := [(r0, 16, 29, .int qt_20), (r0, 16, 30, .int pe), (r0, 16, 28, .int pp)]) [0, 1, 2] rfl rfl rfl dX14_escape_189 (fun H_33 locs_33 hh_33 => ?_)
                  clear hh_23
                  rw [hQ]
                  exact W.vret hx hb hr (fun t ht hW => ⟨⟨(qt_20, pp, 1), rfl, by first | omega | (refine ⟨?_, ?_, ?_, ?_, ?_, ?_, ?_⟩ <;> (first | omega | rfl | assumption | decide | exact Or.inl rfl | exact Or.inr rfl | (simp only; omega))), hh_33.rt (M1 := [(r0, 16, 29, .int qt_20), (r0, 16, 28, .int pp), (r0, 16, 31, .int 1)]) [1, 3, 0] rfl ht⟩, by rw [ht]; try exact hh_33.1.1, fun q h9 hq => by rw [ht]; try exact hh_33.1.2.1 q h9 hq⟩) hh_33.1.2.2 dX14_escape_192
              · skip
                have c_22' : r_21.toInt ≠ 0 := jb_eq_n (rfl) ((by decide)) c_22
                refine lv_aload_n hx hb dX14_escape_165 rfl (lv_at hl 2 rfl) ?_
                refine va_calli (A0 := jA base) (H0 := s.heap) (va_runV (As := []) (rest := []) ⟨hx, hb, hml, hown, hts⟩ (uX14_four l dC dI ca base B hB hAp hB16 hB110 G0 H_20 r0 qt_20 pe) (cwV 0 hts (jgV (jWr_52 _ (List.mem_of_getElem? (i := 3) rfl)) (jWr_52 _ (List.mem_of_getElem? (i := 4) rfl)) (jWr_52 _ (List.mem_of_getElem? (i := 5) rfl)) (jWr_1 _ (List.mem_of_getElem? (i := 5) rfl)) (jWr_52 _ (List.mem_of_getElem? (i := 6) rfl))) rfl rfl rfl (by decide +kernel) ⟨by rw [← hR]; exact Nat.le_of_ble_eq_true rfl, by rw [← hR]; exact Nat.le_of_ble_eq_true rfl⟩) ⟨fun a U g mk q => by obtain ⟨q0, q1, q2, qK, q10, q11, q12⟩ := q; exact ⟨q0, q1, q2, jG.calling g mk a qK, q10, q11, q12⟩, hh_20.recv (C := RX14) (T := TX14) (N := 74) hB16 rfl (by decide) hg_r0 hK, fun U hU hW => ⟨rfl, hU, hh_20.2.1, hG.step hW hU hh_20.1, hg_r0, (hh_20.2.2.1.sub (L1 := [(r0, 16, 29, .int qt_20), (r0, 16, 30, .int pe)]) [0, 1] rfl), by first | omega | (refine ⟨?_, ?_, ?_, ?_, ?_⟩ <;> (first | omega | rfl | assumption | decide | exact Or.inl rfl | exact Or.inr rfl | (simp only; omega)))⟩⟩ rfl rfl hl.1 rfl (lv_room (Nat.le_of_ble_eq_true rfl)) dX14_escape_166 ⟨Nat.zero_le _, Nat.zero_le _⟩) hh_20.1 (fun q _ h => h) (fun q h => h) (fun r_35 u_34 t_34 H_34 locs_34 ht_34 hvm_34 hr_35 hb_34 hz_34 hk_34 hS_34 => ?_)
                obtain ⟨qt_34, rfl⟩ : ∃ z, z = u_34 := ⟨_, rfl⟩
                rw [ht_34] at hb_34
                obtain ⟨hb_341, hb_342, hb_343, hb_344, hb_345⟩ := hb_34
                have hh_34 : jSt (dC, dI) B base G0 G0 EX14_escape s.heap 0 0 [(r0, 16, 29, .int qt_34), (r0, 16, 30, .int pe), (r0, 16, 28, .int pp)] [] [] H_34 locs_34 := ((hh_20.call hb_341 hb_342 hb_343 hb_344 hS_34 rfl (L1 := [(r0, 16, 30, .int pe), (r0, 16, 28, .int pp)]) [1, 2] rfl rfl (M1 := []) [] rfl rfl (I1 := []) [] rfl rfl).more hb_345)
                clear hh_20 ht_34 hvm_34 hz_34 hk_34 hS_34 hb_341 hb_342 hb_343 hb_344 hb_345
                obtain ⟨hr_35_0, hr_35_1, hr_35_2, hr_35_3⟩ := hr_35
                refine lv_goto (tgt := 173) hx hb dX14_escape_169 (by decide) ?_
                refine lv_istore (lv' := [(5, .int r_35), (4, .int r_11), (3, .int w0_5), (0, .ref r0), (1, .int r_2), (2, .ref str337)]) hx hb dX14_escape_173 hl (by decide) rfl (fun ls hl => ?_)
                refine lv_iload hx hb dX14_escape_175 (lv_at hl 0 rfl) ?_
                refine lv_ldc hx hb hown hcs_185 dX14_escape_177 ?_
                refine lv_ldc hx hb hown hcs_186 dX14_escape_179 ?_
                refine va_calli (A0 := jA base) (H0 := s.heap) (va_runS (As := [.int r_35, .int 56320, .int 57343]) (rest := []) ⟨hx, hb, hml, hown, hts⟩ (uX14_in l dC dI ca base B hB hAp G0 H_34 r_35 56320 57343) (va_cwS 3 hts (jgS (jWr_48 _ (List.mem_of_getElem? (i := 10) rfl)) (jWr_48 _ (List.mem_of_getElem? (i := 11) rfl)) (jWr_1 _ (List.mem_of_getElem? (i := 5) rfl)) (jWr_48 _ (List.mem_of_getElem? (i := 12) rfl))) rfl rfl rfl (by decide +kernel) ⟨by rw [← hR]; exact Nat.le_of_ble_eq_true rfl, by rw [← hR]; exact Nat.le_of_ble_eq_true rfl⟩) ⟨fun a U g mk q => by obtain ⟨q0, q1, q2, qK, q10, q11⟩ := q; exact ⟨q0, q1, q2, jG.calling g mk a qK, q10, q11⟩, fun U hU hW => ⟨rfl, hU, hh_34.2.1, hG.step hW hU hh_34.1, jP.nil, trivial⟩⟩ rfl rfl hl.1 rfl (lv_room (Nat.le_of_ble_eq_true rfl)) dX14_escape_181 ⟨Nat.zero_le _, Nat.zero_le _⟩) hh_34.1 (fun q _ h => h) (fun q h => h) (fun r_37 u_36 t_36 H_36 locs_36 ht_36 hvm_36 hr_37 hb_36 hz_36 hk_36 hS_36 => ?_)
                rw [ht_36] at hb_36
                obtain ⟨hb_361, hb_362, hb_363, hb_364, hb_365⟩ := hb_36
                have hh_36 : jSt (dC, dI) B base G0 G0 EX14_escape s.heap 0 0 [(r0, 16, 29, .int qt_34), (r0, 16, 30, .int pe), (r0, 16, 28, .int pp)] [] [] H_36 locs_36 := ((hh_34.call hb_361 hb_362 hb_363 hb_364 hS_36 rfl (L1 := [(r0, 16, 29, .int qt_34), (r0, 16, 30, .int pe), (r0, 16, 28, .int pp)]) [0, 1, 2] rfl rfl (M1 := []) [] rfl rfl (I1 := []) [] rfl rfl).more hb_365)
                clear hh_34 ht_36 hvm_36 hz_36 hk_36 hS_36 hb_361 hb_362 hb_363 hb_364 hb_365
                obtain ⟨hr_37b, hr_37p⟩ := hr_37
                obtain ⟨hr_37p_0, hr_37p_1, hr_37p_2⟩ := hr_37p
                have hr_37' := jb_01 hr_37b
                refine lv_if_ne (tgt := 193) hx hb dX14_escape_184 (by decide) (fun c_38 => ?_) (fun c_38 => ?_)
                · skip
                  have c_38' : r_37.toInt ≠ 0 := jb_ne (rfl) ((by decide)) c_38
                  refine lv_aload_n hx hb dX14_escape_193 rfl (lv_at hl 3 rfl) ?_
                  refine lv_iload hx hb dX14_escape_194 (lv_at hl 1 rfl) ?_
                  refine va_callv (A0 := jA base) (H0 := s.heap) (va_runV (As := [.int r_11]) (rest := []) ⟨hx, hb, hml, hown, hts⟩ (uX14_unit l dC dI ca base B hB hAp hB16 hB127 G0 H_36 r0 r_11 pp) (cwV 1 hts (jgV (jWr_51 _ (List.mem_of_getElem? (i := 21) rfl)) (jWr_51 _ (List.mem_of_getElem? (i := 22) rfl)) (jWr_51 _ (List.mem_of_getElem? (i := 23) rfl)) (jWr_1 _ (List.mem_of_getElem? (i := 5) rfl)) (jWr_52 _ (List.mem_of_getElem? (i := 0) rfl))) rfl rfl rfl (by decide +kernel) ⟨by rw [← hR]; exact Nat.le_of_ble_eq_true rfl, by rw [← hR]; exact Nat.le_of_ble_eq_true rfl⟩) ⟨fun a U g mk q => by obtain ⟨q0, q1, q2, qK, q10, q11, q12⟩ := q; exact ⟨q0, q1, q2, jG.calling g mk a qK, q10, q11, q12⟩, hh_36.recv (C := RX14) (T := TX14) (N := 74) hB16 rfl (by decide) hg_r0 hK, fun U hU hW => ⟨rfl, hU, hh_36.2.1, hG.step hW hU hh_36.1, hg_r0, (hh_36.2.2.1.sub (L1 := [(r0, 16, 28, .int pp)]) [2] rfl), by first | omega | (refine ⟨?_, ?_⟩ <;> (first | omega | rfl | assumption | decide | exact Or.inl rfl | exact Or.inr rfl | (simp only; omega)))⟩⟩ rfl rfl hl.1 rfl (lv_room (Nat.le_of_ble_eq_true rfl)) dX14_escape_196 ⟨Nat.zero_le _, Nat.zero_le _⟩) hh_36.1 (fun q _ h => h) (fun q h => h) (fun u_39 t_39 H_39 locs_39 ht_39 hvm_39 hr_40 hb_39 hz_39 hk_39 hS_39 => ?_)
                  obtain ⟨qp_39, rfl⟩ : ∃ z, z = u_39 := ⟨_, rfl⟩
                  rw [ht_39] at hb_39
                  obtain ⟨hb_391, hb_392, hb_393, hb_394, hb_395⟩ := hb_39
                  have hh_39 : jSt (dC, dI) B base G0 G0 EX14_escape s.heap 0 0 [(r0, 16, 28, .int qp_39), (r0, 16, 29, .int qt_34), (r0, 16, 30, .int pe)] [] [] H_39 locs_39 := ((hh_36.call hb_391 hb_392 hb_393 hb_394 hS_39 rfl (L1 := [(r0, 16, 29, .int qt_34), (r0, 16, 30, .int pe)]) [0, 1] rfl rfl (M1 := []) [] rfl rfl (I1 := []) [] rfl rfl).more hb_395)
                  clear hh_36 ht_39 hvm_39 hz_39 hk_39 hS_39 hb_391 hb_392 hb_393 hb_394 hb_395
                  obtain ⟨hr_40_0, hr_40_1, hr_40_2⟩ := hr_40
                  refine lv_aload_n hx hb dX14_escape_199 rfl (lv_at hl 3 rfl) ?_
                  refine lv_iload hx hb dX14_escape_200 (lv_at hl 0 rfl) ?_
                  refine va_callv (A0 := jA base) (H0 := s.heap) (va_runV (As := [.int r_35]) (rest := []) ⟨hx, hb, hml, hown, hts⟩ (uX14_unit l dC dI ca base B hB hAp hB16 hB127 G0 H_39 r0 r_35 qp_39) (cwV 1 hts (jgV (jWr_51 _ (List.mem_of_getElem? (i := 21) rfl)) (jWr_51 _ (List.mem_of_getElem? (i := 22) rfl)) (jWr_51 _ (List.mem_of_getElem? (i := 23) rfl)) (jWr_1 _ (List.mem_of_getElem? (i := 5) rfl)) (jWr_52 _ (List.mem_of_getElem? (i := 0) rfl))) rfl rfl rfl (by decide +kernel) ⟨by rw [← hR]; exact Nat.le_of_ble_eq_true rfl, by rw [← hR]; exact Nat.le_of_ble_eq_true rfl⟩) ⟨fun a U g mk q => by obtain ⟨q0, q1, q2, qK, q10, q11, q12⟩ := q; exact ⟨q0, q1, q2, jG.calling g mk a qK, q10, q11, q12⟩, hh_39.recv (C := RX14) (T := TX14) (N := 74) hB16 rfl (by decide) hg_r0 hK, fun U hU hW => ⟨rfl, hU, hh_39.2.1, hG.step hW hU hh_39.1, hg_r0, (hh_39.2.2.1.sub (L1 := [(r0, 16, 28, .int qp_39)]) [0] rfl), by first | omega | (refine ⟨?_, ?_⟩ <;> (first | omega | rfl | assumption | decide | exact Or.inl rfl | exact Or.inr rfl | (simp only; omega)))⟩⟩ rfl rfl hl.1 rfl (lv_room (Nat.le_of_ble_eq_true rfl)) dX14_escape_202 ⟨Nat.zero_le _, Nat.zero_le _⟩) hh_39.1 (fun q _ h => h) (fun q h => h) (fun u_41 t_41 H_41 locs_41 ht_41 hvm_41 hr_42 hb_41 hz_41 hk_41 hS_41 => ?_)
                  obtain ⟨qp_41, rfl⟩ : ∃ z, z = u_41 := ⟨_, rfl⟩
                  rw [ht_41] at hb_41
                  obtain ⟨hb_411, hb_412, hb_413, hb_414, hb_415⟩ := hb_41
                  have hh_41 : jSt (dC, dI) B base G0 G0 EX14_escape s.heap 0 0 [(r0, 16, 28, .int qp_41), (r0, 16, 29, .int qt_34), (r0, 16, 30, .int pe)] [] [] H_41 locs_41 := ((hh_39.call hb_411 hb_412 hb_413 hb_414 hS_41 rfl (L1 := [(r0, 16, 29, .int qt_34), (r0, 16, 30, .int pe)]) [1, 2] rfl rfl (M1 := []) [] rfl rfl (I1 := []) [] rfl rfl).more hb_415)
                  clear hh_39 ht_41 hvm_41 hz_41 hk_41 hS_41 hb_411 hb_412 hb_413 hb_414 hb_415
                  obtain ⟨hr_42_0, hr_42_1, hr_42_2⟩ := hr_42
                  rw [hQ]
                  obtain ⟨v_43, hv_43, hh_44⟩ := hh_41.pin (C := RX14) (T := TX14) (N := 74) hB16 rfl (by decide) hg_r0 (i := 31) (by decide) rfl
                  obtain ⟨bad_45, rfl, hzbad_45⟩ := hv_43
                  have hzbad_45' := jb_01 hzbad_45
                  exact W.vret hx hb hr (fun t ht hW => ⟨⟨(qt_34, qp_41, bad_45), rfl, by first | omega | (refine ⟨?_, ?_, ?_, ?_, ?_, ?_, ?_⟩ <;> (first | omega | rfl | assumption | decide | exact Or.inl rfl | exact Or.inr rfl | (simp only; omega))), hh_44.rt (M1 := [(r0, 16, 29, .int qt_34), (r0, 16, 28, .int qp_41), (r0, 16, 31, .int bad_45)]) [2, 1, 0] rfl ht⟩, by rw [ht]; try exact hh_44.1.1, fun q h9 hq => by rw [ht]; try exact hh_44.1.2.1 q h9 hq⟩) hh_44.1.2.2 dX14_escape_205
                · skip
                  have c_38' : r_37.toInt = 0 := jb_ne_n (rfl) ((by decide)) c_38
                  refine lv_aload_n hx hb dX14_escape_187 rfl (lv_at hl 3 rfl) ?_
                  refine lv_iconst (v := 1) hx hb dX14_escape_188 (by decide) ?_
                  refine j7_put hx hb hown hK hh_36 hB hAp hB16 (C := RX14) (T := TX14) (N := 74) rfl (by decide) hg_r0 (i := 31) (by decide) hly_16_31 rfl hlk_288 rfl (ty := .boolean) (v := .int 1) (by decide +kernel) (jb_nz (Or.inr rfl)) (jb_fz (Or.inr rfl)) (⟨_, rfl, (Or.inr rfl)⟩) rfl (L1 := [(r0, 16, 29, .int qt_34), (r0, 16, 30, .int pe), (r0, 16, 28, .int pp)]) [0, 1, 2] rfl rfl rfl dX14_escape_189 (fun H_46 locs_46 hh_46 => ?_)
                  clear hh_36
                  rw [hQ]
                  exact W.vret hx hb hr (fun t ht hW => ⟨⟨(qt_34, pp, 1), rfl, by first | omega | (refine ⟨?_, ?_, ?_, ?_, ?_, ?_, ?_⟩ <;> (first | omega | rfl | assumption | decide | exact Or.inl rfl | exact Or.inr rfl | (simp only; omega))), hh_46.rt (M1 := [(r0, 16, 29, .int qt_34), (r0, 16, 28, .int pp), (r0, 16, 31, .int 1)]) [1, 3, 0] rfl ht⟩, by rw [ht]; try exact hh_46.1.1, fun q h9 hq => by rw [ht]; try exact hh_46.1.2.1 q h9 hq⟩) hh_46.1.2.2 dX14_escape_192
            · skip
              have c_19' : r_18.toInt = 0 := jb_ne_n (rfl) ((by decide)) c_19
              refine lv_aload_n hx hb dX14_escape_148 rfl (lv_at hl 2 rfl) ?_
              refine lv_iload hx hb dX14_escape_149 (lv_at hl 0 rfl) ?_
              refine va_callv (A0 := jA base) (H0 := s.heap) (va_runV (As := [.int r_11]) (rest := []) ⟨hx, hb, hml, hown, hts⟩ (uX14_unit l dC dI ca base B hB hAp hB16 hB127 G0 H_17 r0 r_11 pp) (cwV 1 hts (jgV (jWr_51 _ (List.mem_of_getElem? (i := 21) rfl)) (jWr_51 _ (List.mem_of_getElem? (i := 22) rfl)) (jWr_51 _ (List.mem_of_getElem? (i := 23) rfl)) (jWr_1 _ (List.mem_of_getElem? (i := 5) rfl)) (jWr_52 _ (List.mem_of_getElem? (i := 0) rfl))) rfl rfl rfl (by decide +kernel) ⟨by rw [← hR]; exact Nat.le_of_ble_eq_true rfl, by rw [← hR]; exact Nat.le_of_ble_eq_true rfl⟩) ⟨fun a U g mk q => by obtain ⟨q0, q1, q2, qK, q10, q11, q12⟩ := q; exact ⟨q0, q1, q2, jG.calling g mk a qK, q10, q11, q12⟩, hh_17.recv (C := RX14) (T := TX14) (N := 74) hB16 rfl (by decide) hg_r0 hK, fun U hU hW => ⟨rfl, hU, hh_17.2.1, hG.step hW hU hh_17.1, hg_r0, (hh_17.2.2.1.sub (L1 := [(r0, 16, 28, .int pp)]) [2] rfl), by first | omega | (refine ⟨?_, ?_⟩ <;> (first | omega | rfl | assumption | decide | exact Or.inl rfl | exact Or.inr rfl | (simp only; omega)))⟩⟩ rfl rfl hl.1 rfl (lv_room (Nat.le_of_ble_eq_true rfl)) dX14_escape_151 ⟨Nat.zero_le _, Nat.zero_le _⟩) hh_17.1 (fun q _ h => h) (fun q h => h) (fun u_47 t_47 H_47 locs_47 ht_47 hvm_47 hr_48 hb_47 hz_47 hk_47 hS_47 => ?_)
              obtain ⟨qp_47, rfl⟩ : ∃ z, z = u_47 := ⟨_, rfl⟩
              rw [ht_47] at hb_47
              obtain ⟨hb_471, hb_472, hb_473, hb_474, hb_475⟩ := hb_47
              have hh_47 : jSt (dC, dI) B base G0 G0 EX14_escape s.heap 0 0 [(r0, 16, 28, .int qp_47), (r0, 16, 29, .int qt_10), (r0, 16, 30, .int pe)] [] [] H_47 locs_47 := ((hh_17.call hb_471 hb_472 hb_473 hb_474 hS_47 rfl (L1 := [(r0, 16, 29, .int qt_10), (r0, 16, 30, .int pe)]) [0, 1] rfl rfl (M1 := []) [] rfl rfl (I1 := []) [] rfl rfl).more hb_475)
              clear hh_17 ht_47 hvm_47 hz_47 hk_47 hS_47 hb_471 hb_472 hb_473 hb_474 hb_475
              obtain ⟨hr_48_0, hr_48_1, hr_48_2⟩ := hr_48
              rw [hQ]
              obtain ⟨v_49, hv_49, hh_50⟩ := hh_47.pin (C := RX14) (T := TX14) (N := 74) hB16 rfl (by decide) hg_r0 (i := 31) (by decide) rfl
              obtain ⟨bad_51, rfl, hzbad_51⟩ := hv_49
              have hzbad_51' := jb_01 hzbad_51
              exact W.vret hx hb hr (fun t ht hW => ⟨⟨(qt_10, qp_47, bad_51), rfl, by first | omega | (refine ⟨?_, ?_, ?_, ?_, ?_, ?_, ?_⟩ <;> (first | omega | rfl | assumption | decide | exact Or.inl rfl | exact Or.inr rfl | (simp only; omega))), hh_50.rt (M1 := [(r0, 16, 29, .int qt_10), (r0, 16, 28, .int qp_47), (r0, 16, 31, .int bad_51)]) [2, 1, 0] rfl ht⟩, by rw [ht]; try exact hh_50.1.1, fun q h9 hq => by rw [ht]; try exact hh_50.1.2.1 q h9 hq⟩) hh_50.1.2.2 dX14_escape_154
          · skip
            have c_16' : r_15.toInt ≠ 0 := jb_eq_n (rfl) ((by decide)) c_16
            refine lv_aload_n hx hb dX14_escape_130 rfl (lv_at hl 2 rfl) ?_
            refine lv_iconst (v := 1) hx hb dX14_escape_131 (by decide) ?_
            refine j7_put hx hb hown hK hh_14 hB hAp hB16 (C := RX14) (T := TX14) (N := 74) rfl (by decide) hg_r0 (i := 31) (by decide) hly_16_31 rfl hlk_288 rfl (ty := .boolean) (v := .int 1) (by decide +kernel) (jb_nz (Or.inr rfl)) (jb_fz (Or.inr rfl)) (⟨_, rfl, (Or.inr rfl)⟩) rfl (L1 := [(r0, 16, 29, .int qt_10), (r0, 16, 30, .int pe), (r0, 16, 28, .int pp)]) [0, 1, 2] rfl rfl rfl dX14_escape_132 (fun H_52 locs_52 hh_52 => ?_)
            clear hh_14
            rw [hQ]
            exact W.vret hx hb hr (fun t ht hW => ⟨⟨(qt_10, pp, 1), rfl, by first | omega | (refine ⟨?_, ?_, ?_, ?_, ?_, ?_, ?_⟩ <;> (first | omega | rfl | assumption | decide | exact Or.inl rfl | exact Or.inr rfl | (simp only; omega))), hh_52.rt (M1 := [(r0, 16, 29, .int qt_10), (r0, 16, 28, .int pp), (r0, 16, 31, .int 1)]) [1, 3, 0] rfl ht⟩, by rw [ht]; try exact hh_52.1.1, fun q h9 hq => by rw [ht]; try exact hh_52.1.2.1 q h9 hq⟩) hh_52.1.2.2 dX14_escape_135
    · skip
      have c_6' : w0_5.toInt ≥ 0 := jb_lt_n (rfl) ((by decide)) c_6
      refine lv_aload_n hx hb dX14_escape_37 rfl (lv_at hl 1 rfl) ?_
      refine lv_iload_n hx hb dX14_escape_38 rfl (lv_at hl 0 rfl) ?_
      refine lv_iconst (v := 3) hx hb dX14_escape_39 (by decide) ?_
      have C93 : ∀ (w0_53 : Int32) (H_53 : Heap) (locs_53 : List Loc), jSt (dC, dI) B base G0 G0 EX14_escape s.heap 0 0 [(r0, 16, 29, .int z_3), (r0, 16, 30, .int pe), (r0, 16, 28, .int pp), (r0, 16, 31, .int pb)] [] [] H_53 locs_53 → (w0_53.toInt ≤ 255) → ∀ ls : Array Slot, lv_has ls 6 [(0, .ref r0), (1, .int r_2), (2, .ref str337), (3, .int w0_5)] → W p l e R s m ([.ref r0] : List Value).toArray below meth c H_53 locs_53 0 0 Q (F0 m 93 ls [.int w0_53, .ref r0]) := by
        intro w0_53 H_53 locs_53 hh_53  hi_53 ls hl
        refine va_callv (A0 := jA base) (H0 := s.heap) (va_runV (As := [.int w0_53]) (rest := []) ⟨hx, hb, hml, hown, hts⟩ (uX14_unit l dC dI ca base B hB hAp hB16 hB127 G0 H_53 r0 w0_53 pp) (cwV 1 hts (jgV (jWr_51 _ (List.mem_of_getElem? (i := 21) rfl)) (jWr_51 _ (List.mem_of_getElem? (i := 22) rfl)) (jWr_51 _ (List.mem_of_getElem? (i := 23) rfl)) (jWr_1 _ (List.mem_of_getElem? (i := 5) rfl)) (jWr_52 _ (List.mem_of_getElem? (i := 0) rfl))) rfl rfl rfl (by decide +kernel) ⟨by rw [← hR]; exact Nat.le_of_ble_eq_true rfl, by rw [← hR]; exact Nat.le_of_ble_eq_true rfl⟩) ⟨fun a U g mk q => by obtain ⟨q0, q1, q2, qK, q10, q11, q12⟩ := q; exact ⟨q0, q1, q2, jG.calling g mk a qK, q10, q11, q12⟩, hh_53.recv (C := RX14) (T := TX14) (N := 74) hB16 rfl (by decide) hg_r0 hK, fun U hU hW => ⟨rfl, hU, hh_53.2.1, hG.step hW hU hh_53.1, hg_r0, (hh_53.2.2.1.sub (L1 := [(r0, 16, 28, .int pp)]) [2] rfl), by first | omega | (refine ⟨?_, ?_⟩ <;> (first | omega | rfl | assumption | decide | exact Or.inl rfl | exact Or.inr rfl | (simp only; omega)))⟩⟩ rfl rfl hl.1 rfl (lv_room (Nat.le_of_ble_eq_true rfl)) dX14_escape_93 ⟨Nat.zero_le _, Nat.zero_le _⟩) hh_53.1 (fun q _ h => h) (fun q h => h) (fun u_54 t_54 H_54 locs_54 ht_54 hvm_54 hr_55 hb_54 hz_54 hk_54 hS_54 => ?_)
        obtain ⟨qp_54, rfl⟩ : ∃ z, z = u_54 := ⟨_, rfl⟩
        rw [ht_54] at hb_54
        obtain ⟨hb_541, hb_542, hb_543, hb_544, hb_545⟩ := hb_54
        have hh_54 : jSt (dC, dI) B base G0 G0 EX14_escape s.heap 0 0 [(r0, 16, 28, .int qp_54), (r0, 16, 29, .int z_3), (r0, 16, 30, .int pe), (r0, 16, 31, .int pb)] [] [] H_54 locs_54 := ((hh_53.call hb_541 hb_542 hb_543 hb_544 hS_54 rfl (L1 := [(r0, 16, 29, .int z_3), (r0, 16, 30, .int pe), (r0, 16, 31, .int pb)]) [0, 1, 3] rfl rfl (M1 := []) [] rfl rfl (I1 := []) [] rfl rfl).more hb_545)
        clear hh_53 ht_54 hvm_54 hz_54 hk_54 hS_54 hb_541 hb_542 hb_543 hb_544 hb_545
        obtain ⟨hr_55_0, hr_55_1, hr_55_2⟩ := hr_55
        rw [hQ]
        exact W.vret hx hb hr (fun t ht hW => ⟨⟨(z_3, qp_54, pb), rfl, by first | omega | (refine ⟨?_, ?_, ?_, ?_, ?_, ?_, ?_⟩ <;> (first | omega | rfl | assumption | decide | exact Or.inl rfl | exact Or.inr rfl | (simp only; omega))), hh_54.rt (M1 := [(r0, 16, 29, .int z_3), (r0, 16, 28, .int qp_54), (r0, 16, 31, .int pb)]) [1, 0, 3] rfl ht⟩, by rw [ht]; try exact hh_54.1.1, fun q h9 hq => by rw [ht]; try exact hh_54.1.2.1 q h9 hq⟩) hh_54.1.2.2 dX14_escape_96
      refine lv_icmp_ge (tgt := 47) hx hb dX14_escape_40 (by decide) (fun c_56 => ?_) (fun c_56 => ?_)
      · skip
        have c_56' : w0_5.toInt ≥ 3 := jb_ge (rfl) ((by decide)) c_56
        refine lv_iload_n hx hb dX14_escape_47 rfl (lv_at hl 2 rfl) ?_
        refine lv_bipush (v := 98) hx hb dX14_escape_48 (by decide) ?_
        refine lv_icmp_ne (tgt := 58) hx hb dX14_escape_50 (by decide) (fun c_57 => ?_) (fun c_57 => ?_)
        · skip
          have c_57' : r_2.toInt ≠ 98 := jb_ne (rfl) ((by decide)) c_57
          refine lv_iload_n hx hb dX14_escape_58 rfl (lv_at hl 2 rfl) ?_
          refine lv_bipush (v := 102) hx hb dX14_escape_59 (by decide) ?_
          refine lv_icmp_ne (tgt := 69) hx hb dX14_escape_61 (by decide) (fun c_58 => ?_) (fun c_58 => ?_)
          · skip
            have c_58' : r_2.toInt ≠ 102 := jb_ne (rfl) ((by decide)) c_58
            refine lv_iload_n hx hb dX14_escape_69 rfl (lv_at hl 2 rfl) ?_
            refine lv_bipush (v := 110) hx hb dX14_escape_70 (by decide) ?_
            refine lv_icmp_ne (tgt := 80) hx hb dX14_escape_72 (by decide) (fun c_59 => ?_) (fun c_59 => ?_)
            · skip
              have c_59' : r_2.toInt ≠ 110 := jb_ne (rfl) ((by decide)) c_59
              refine lv_iload_n hx hb dX14_escape_80 rfl (lv_at hl 2 rfl) ?_
              refine lv_bipush (v := 114) hx hb dX14_escape_81 (by decide) ?_
              refine lv_icmp_ne (tgt := 91) hx hb dX14_escape_83 (by decide) (fun c_60 => ?_) (fun c_60 => ?_)
              · skip
                have c_60' : r_2.toInt ≠ 114 := jb_ne (rfl) ((by decide)) c_60
                refine lv_bipush (v := 9) hx hb dX14_escape_91 (by decide) ?_
                exact C93 9 _ _ hh_5 (by first | omega | rfl | assumption | decide | exact Or.inl rfl | exact Or.inr rfl | (simp only; omega)) _ (lv_sub hl [1, 2, 3, 0] rfl)
              · skip
                have c_60' : r_2.toInt = 114 := jb_ne_n (rfl) ((by decide)) c_60
                refine lv_bipush (v := 13) hx hb dX14_escape_86 (by decide) ?_
                refine lv_goto (tgt := 93) hx hb dX14_escape_88 (by decide) ?_
                exact C93 13 _ _ hh_5 (by first | omega | rfl | assumption | decide | exact Or.inl rfl | exact Or.inr rfl | (simp only; omega)) _ (lv_sub hl [1, 2, 3, 0] rfl)
            · skip
              have c_59' : r_2.toInt = 110 := jb_ne_n (rfl) ((by decide)) c_59
              refine lv_bipush (v := 10) hx hb dX14_escape_75 (by decide) ?_
              refine lv_goto (tgt := 93) hx hb dX14_escape_77 (by decide) ?_
              exact C93 10 _ _ hh_5 (by first | omega | rfl | assumption | decide | exact Or.inl rfl | exact Or.inr rfl | (simp only; omega)) _ (lv_sub hl [1, 2, 3, 0] rfl)
          · skip
            have c_58' : r_2.toInt = 102 := jb_ne_n (rfl) ((by decide)) c_58
            refine lv_bipush (v := 12) hx hb dX14_escape_64 (by decide) ?_
            refine lv_goto (tgt := 93) hx hb dX14_escape_66 (by decide) ?_
            exact C93 12 _ _ hh_5 (by first | omega | rfl | assumption | decide | exact Or.inl rfl | exact Or.inr rfl | (simp only; omega)) _ (lv_sub hl [1, 2, 3, 0] rfl)
        · skip
          have c_57' : r_2.toInt = 98 := jb_ne_n (rfl) ((by decide)) c_57
          refine lv_bipush (v := 8) hx hb dX14_escape_53 (by decide) ?_
          refine lv_goto (tgt := 93) hx hb dX14_escape_55 (by decide) ?_
          exact C93 8 _ _ hh_5 (by first | omega | rfl | assumption | decide | exact Or.inl rfl | exact Or.inr rfl | (simp only; omega)) _ (lv_sub hl [1, 2, 3, 0] rfl)
      · skip
        have c_56' : w0_5.toInt < 3 := jb_ge_n (rfl) ((by decide)) c_56
        refine lv_iload_n hx hb dX14_escape_43 rfl (lv_at hl 2 rfl) ?_
        refine lv_goto (tgt := 93) hx hb dX14_escape_44 (by decide) ?_
        exact C93 r_2 _ _ hh_5 (by first | omega | rfl | assumption | decide | exact Or.inl rfl | exact Or.inr rfl | (simp only; omega)) _ (lv_sub hl [1, 2, 3, 0] rfl)
  refine lv_if_ge (tgt := 27) hx hb dX14_escape_20 (by decide) (fun c_61 => ?_) (fun c_61 => ?_)
  · skip
    have c_61' : r_2.toInt ≥ 0 := jb_ge (rfl) ((by decide)) c_61
    first | (have hr_2_2q := hr_2_2.resolve_left (by omega); clear hr_2_2) | (have hr_2_2q := hr_2_2.resolve_right (by omega); clear hr_2_2) | skip
    refine lv_aload_n hx hb dX14_escape_27 rfl (lv_at hl 0 rfl) ?_
    refine lv_iload_n hx hb dX14_escape_28 rfl (lv_at hl 1 rfl) ?_
    refine vp_callSi (W.runV (As := [.int r_2]) (rest := []) ⟨hx, hb, hml, hown, hts⟩ (wJ0_indexOf_0f7a4 l dC dI ca base H_4 str337 8 r_2) (cwV 1 hts (jgV (jWr_51 _ (List.mem_of_getElem? (i := 20) rfl)) (jWr_37 _ (List.mem_of_getElem? (i := 12) rfl)) (jWr_37 _ (List.mem_of_getElem? (i := 13) rfl)) (jWr_5 _ (List.mem_of_getElem? (i := 15) rfl)) (jWr_37 _ (List.mem_of_getElem? (i := 14) rfl))) rfl rfl rfl (by decide +kernel) ⟨by rw [← hR]; exact Nat.le_of_ble_eq_true rfl, by rw [← hR]; exact Nat.le_of_ble_eq_true rfl⟩) ⟨fun a U g mk q => by obtain ⟨q0, q1, q2, qK, q9⟩ := q; exact ⟨q0, q1, (q2.moved (Vm.Alike.refl U.vm)), jG.calling g mk a qK, q9⟩, jStr_recv hstr337 hh_4.1, fun U hU hW => ⟨rfl, hU, (hstr337.moved hW.alike).kept hh_4.1.2.1, hG.step hW hU hh_4.1, by omega⟩⟩ rfl rfl hl.1 rfl (lv_room (Nat.le_of_ble_eq_true rfl)) dX14_escape_29 ⟨Nat.zero_le _, Nat.zero_le _⟩) (fun r_62 hr_62 => ?_)
    exact C32 r_62 _ _ hh_4 (by first | omega | (refine ⟨?_, ?_, ?_⟩ <;> (first | omega | rfl | assumption | decide | exact Or.inl rfl | exact Or.inr rfl | (simp only; omega)))) _ (lv_sub hl [2, 1, 0] rfl)
  · skip
    have c_61' : r_2.toInt < 0 := jb_ge_n (rfl) ((by decide)) c_61
    first | (have hr_2_2q := hr_2_2.resolve_left (by omega); clear hr_2_2) | (have hr_2_2q := hr_2_2.resolve_right (by omega); clear hr_2_2) | skip
    refine lv_iconst (v := (-1)) hx hb dX14_escape_23 (by decide) ?_
    refine lv_goto (tgt := 32) hx hb dX14_escape_24 (by decide) ?_
    exact C32 (-1) _ _ hh_4 (by first | omega | (refine ⟨?_, ?_, ?_⟩ <;> (first | omega | rfl | assumption | decide | exact Or.inl rfl | exact Or.inr rfl | (simp only; omega)))) _ (lv_sub hl [2, 1, 0] rfl)
set_option maxHeartbeats 4000000 in
set_option maxRecDepth 20000 in
theorem uX14_readString (l : Launch) (dC : Nat → ClassId) (dI : Nat → Nat → Nat) (ca : Nat → ClassId) (base : Nat) (B : jF) (hB : jBok B) (hAp : jAp (dC, dI)) (hB16 : ∀ n G a H, B 16 n G a H ↔ jOb (dC, dI) 16 74 (F16 n G) a H) (hB110 : ∀ n G a H, B 110 n G a H ↔ jAr (dC, dI) (ca 1) (fun j z => 0 ≤ z.toInt ∧ z.toInt ≤ 255) n a H) (hB127 : ∀ n G a H, B 127 n G a H ↔ jAr (dC, dI) (ca 1) (fun j z => True) n a H) (G0 : jT) (H0 : Heap) (r0 : Nat) (pt : Int32) (pe : Int32) (pp : Int32) (pb : Int32) : Met l yX14_readString (jw yX14_readString cX14_readString 4 none) ({ frames := 6, cells := 0, slots := 0, locals := 206 }) (va_Pc [.ref r0] (fun U => U.heap = H0 ∧ jX B base G0 [] H0 ∧ jG dC dI ca base U ∧ G0 r0 = some (16, 0) ∧ jP (dC, dI) G0 H0 [(r0, 16, 29, .int pt), (r0, 16, 30, .int pe), (r0, 16, 28, .int pp), (r0, 16, 31, .int pb)] ∧ 0 ≤ pt.toInt ∧ pt.toInt ≤ 90000 ∧ 0 ≤ pe.toInt ∧ pe.toInt ≤ 3000 ∧ pt.toInt < pe.toInt ∧ 0 ≤ pp.toInt ∧ pp.toInt ≤ pt.toInt ∧ pb.toInt = 0)) (va_Qv (S := Int32 × Int32 × Int32 × Int32) (fun u => 0 ≤ u.2.2.1.toInt ∧ u.2.2.1.toInt ≤ 1 ∧ pt.toInt + 1 ≤ u.1.toInt ∧ pp.toInt ≤ u.2.1.toInt ∧ u.2.1.toInt ≤ u.1.toInt ∧ u.2.2.2.toInt = pp.toInt ∧ u.1.toInt ≤ pe.toInt + 2 * u.2.2.1.toInt) (fun u t => jRt (dC, dI) B base G0 EX14_readString H0 [(r0, 16, 29, .int u.1), (r0, 16, 28, .int u.2.1), (r0, 16, 31, .int u.2.2.1), (r0, 16, 32, .int u.2.2.2)] t.heap) (jA base)) 0 0 (jA base) := by
  refine Met.ofW (cc := cX14_readString) (maxL := 4) (ret := none) (by decide) rfl ?_
  intro p e s m args below meth c s₁ Bd hml hv
  obtain ⟨rfl, hH0, hX, hG, hg_r0, hP0, hp0, hp1, hp2, hp3, hp4, hp5, hp6, hp7⟩ := hv
  have hK := hG.1
  have hx := Bd.exec
  have hb := Bd.bytes
  have hr := Bd.returns
  have hts := atoms_spec (ws := (jw yX14_readString cX14_readString 4 none)) Bd.pre
  have htw : ∀ w ∈ jWl, w.before _ s = true := fun w h => hts w (List.mem_cons_of_mem _ h)
  have hown : s.vm.findClass RX14 = some m.cls := findClass_of_methodNamed Bd.named
  have hlocks := Bd.notSynchronized
  obtain ⟨Q, hQ⟩ : ∃ Q, Q = MQ below (va_Qv (S := Int32 × Int32 × Int32 × Int32) (fun u => 0 ≤ u.2.2.1.toInt ∧ u.2.2.1.toInt ≤ 1 ∧ pt.toInt + 1 ≤ u.1.toInt ∧ pp.toInt ≤ u.2.1.toInt ∧ u.2.1.toInt ≤ u.1.toInt ∧ u.2.2.2.toInt = pp.toInt ∧ u.1.toInt ≤ pe.toInt + 2 * u.2.2.1.toInt) (fun u t => jRt (dC, dI) B base G0 EX14_readString H0 [(r0, 16, 29, .int u.1), (r0, 16, 28, .int u.2.1), (r0, 16, 31, .int u.2.2.1), (r0, 16, 32, .int u.2.2.2)] t.heap) (jA base)) ([.ref r0] : List Value).toArray s 0 0 (jA base) := ⟨_, rfl⟩
  rw [← hQ]
  have hl := lv_entry ([.ref r0]) (n := 4) (Nat.le_of_ble_eq_true rfl)
  rw [lg_entry_eq]
  generalize (lg_sl ([.ref r0]) ++ List.replicate (4 - (lg_sl ([.ref r0])).length) Slot.unset).toArray = ls at hl ⊢
  have hl : lv_has ls 4 [(0, .ref r0)] := hl
  generalize hR : (headSpec (jw yX14_readString cX14_readString 4 none) ({ frames := 6, cells := 0, slots := 0, locals := 206 })).room = R
  subst hH0
  have hh : jSt (dC, dI) B base G0 G0 EX14_readString s.heap 0 0 [(r0, 16, 29, .int pt), (r0, 16, 30, .int pe), (r0, 16, 28, .int pp), (r0, 16, 31, .int pb)] [] [] s.heap [] := jSt.start hX hP0 jMc.nil jIs.nil
  clear hX hP0
  have hk0 : (0 : Int32).toInt = 0 := by decide
  have hk1 : (1 : Int32).toInt = 1 := by decide
  have hk32 : (32 : Int32).toInt = 32 := by decide
  have hk34 : (34 : Int32).toInt = 34 := by decide
  have hk92 : (92 : Int32).toInt = 92 := by decide
  have hly_16_9 := htw (u_lay RX14 TX14 9) (jWc_wsX140 _ (u_in_lay (by decide)))
  have hly_16_28 := htw (u_lay RX14 TX14 28) (jWc_wsX140 _ (u_in_lay (by decide)))
  have hly_16_29 := htw (u_lay RX14 TX14 29) (jWc_wsX140 _ (u_in_lay (by decide)))
  have hly_16_30 := htw (u_lay RX14 TX14 30) (jWc_wsX140 _ (u_in_lay (by decide)))
  have hly_16_31 := htw (u_lay RX14 TX14 31) (jWc_wsX140 _ (u_in_lay (by decide)))
  have hly_16_32 := htw (u_lay RX14 TX14 32) (jWc_wsX140 _ (u_in_lay (by decide)))
  have hly_16_33 := htw (u_lay RX14 TX14 33) (jWc_wsX140 _ (u_in_lay (by decide)))
  have hlk_273 := (htw (.fieldLink RX14 273 "ProofServerModel" "at" "I") (jWr_50 _ (List.mem_of_getElem? (i := 5) rfl)))
  have hlk_304 := (htw (.fieldLink RX14 304 "ProofServerModel" "pooled" "I") (jWr_50 _ (List.mem_of_getElem? (i := 8) rfl)))
  have hlk_288 := (htw (.fieldLink RX14 288 "ProofServerModel" "bad" "Z") (jWr_50 _ (List.mem_of_getElem? (i := 9) rfl)))
  have hlk_20 := (htw (.fieldLink RX14 20 "ProofServerModel" "kept" "[I") (jWr_10 _ (List.mem_of_getElem? (i := 21) rfl)))
  have hlk_276 := (htw (.fieldLink RX14 276 "ProofServerModel" "end" "I") (jWr_50 _ (List.mem_of_getElem? (i := 6) rfl)))
  have hlk_357 := (htw (.fieldLink RX14 357 "ProofServerModel" "utfChar" "I") (jWr_51 _ (List.mem_of_getElem? (i := 11) rfl)))
  have hlk_301 := (htw (.fieldLink RX14 301 "ProofServerModel" "stringFrom" "I") (jWr_50 _ (List.mem_of_getElem? (i := 15) rfl)))
  refine lv_aload_n hx hb dX14_readString_0 rfl (lv_at hl 0 rfl) ?_
  refine lv_dup hx hb dX14_readString_1 rfl ?_
  refine j7_read hx hb hown hK (C := RX14) (T := TX14) (N := 74) rfl hly_16_29 hlk_273 (hh.at 0 rfl) dX14_readString_2 ?_
  refine lv_iconst (v := 1) hx hb dX14_readString_5 (by decide) ?_
  refine lv_iadd hx hb dX14_readString_6 ?_
  refine lv_topi (fun z_1 ez_1 => ?_)
  have hz_1 : z_1.toInt = pt.toInt + 1 := by rw [ez_1]; exact jb_iadd2 (rfl) ((by decide)) (by omega)
  refine j7_put hx hb hown hK hh hB hAp hB16 (C := RX14) (T := TX14) (N := 74) rfl (by decide) hg_r0 (i := 29) (by decide) hly_16_29 rfl hlk_273 rfl (ty := .int) (v := .int z_1) (by decide +kernel) rfl rfl (⟨_, rfl, by omega, by omega⟩) rfl (L1 := [(r0, 16, 30, .int pe), (r0, 16, 28, .int pp), (r0, 16, 31, .int pb)]) [1, 2, 3] rfl rfl rfl dX14_readString_7 (fun H_2 locs_2 hh_2 => ?_)
  clear hh
  refine lv_aload_n hx hb dX14_readString_10 rfl (lv_at hl 0 rfl) ?_
  refine j7_read hx hb hown hK (C := RX14) (T := TX14) (N := 74) rfl hly_16_28 hlk_304 (hh_2.at 2 rfl) dX14_readString_11 ?_
  refine lv_istore_n (lv' := [(1, .int pp), (0, .ref r0)]) hx hb dX14_readString_14 rfl hl (by decide) rfl (fun ls hl => ?_)
  have L15 : ∀ (N : Nat) (wt_3 : Int32) (wp_3 : Int32) (wb_3 : Int32) (H_3 : Heap) (locs_3 : List Loc), jSt (dC, dI) B base G0 G0 EX14_readString s.heap 0 0 [(r0, 16, 29, .int wt_3), (r0, 16, 28, .int wp_3), (r0, 16, 31, .int wb_3), (r0, 16, 30, .int pe)] [] [] H_3 locs_3 → (pt.toInt + 1 ≤ wt_3.toInt ∧ pp.toInt ≤ wp_3.toInt ∧ wp_3.toInt ≤ wt_3.toInt ∧ 0 ≤ wb_3.toInt ∧ wb_3.toInt ≤ 1 ∧ wt_3.toInt ≤ pe.toInt + wb_3.toInt) → (((pe.toInt - wt_3.toInt).toNat : Int) + (1 - wb_3.toInt) : Int) < N → ∀ ls : Array Slot, lv_has ls 4 [(0, .ref r0), (1, .int pp)] → W p l e R s m ([.ref r0] : List Value).toArray below meth c H_3 locs_3 0 0 Q (F0 m 15 ls []) := by
    intro N
    induction N with
    | zero => intro wt_3 wp_3 wb_3 H_3 locs_3 hh_3  hi_3 hm; exact absurd hm (by omega)
    | succ N L15 =>
      intro wt_3 wp_3 wb_3 H_3 locs_3 hh_3  hi_3 hm_3 ls hl
      obtain ⟨hi_3_0, hi_3_1, hi_3_2, hi_3_3, hi_3_4, hi_3_5⟩ := hi_3
      refine lv_aload_n hx hb dX14_readString_15 rfl (lv_at hl 0 rfl) ?_
      refine j7_read hx hb hown hK (C := RX14) (T := TX14) (N := 74) rfl hly_16_31 hlk_288 (hh_3.at 2 rfl) dX14_readString_16 ?_
      refine lv_if_ne (tgt := 123) hx hb dX14_readString_19 (by decide) (fun c_4 => ?_) (fun c_4 => ?_)
      · skip
        have c_4' : wb_3.toInt ≠ 0 := jb_ne (rfl) ((by decide)) c_4
        refine lv_aload_n hx hb dX14_readString_123 rfl (lv_at hl 0 rfl) ?_
        refine lv_dup hx hb dX14_readString_124 rfl ?_
        refine j7_read hx hb hown hK (C := RX14) (T := TX14) (N := 74) rfl hly_16_29 hlk_273 (hh_3.at 0 rfl) dX14_readString_125 ?_
        refine lv_iconst (v := 1) hx hb dX14_readString_128 (by decide) ?_
        refine lv_iadd hx hb dX14_readString_129 ?_
        refine lv_topi (fun z_5 ez_5 => ?_)
        have hz_5 : z_5.toInt = wt_3.toInt + 1 := by rw [ez_5]; exact jb_iadd2 (rfl) ((by decide)) (by omega)
        refine j7_put hx hb hown hK hh_3 hB hAp hB16 (C := RX14) (T := TX14) (N := 74) rfl (by decide) hg_r0 (i := 29) (by decide) hly_16_29 rfl hlk_273 rfl (ty := .int) (v := .int z_5) (by decide +kernel) rfl rfl (⟨_, rfl, by omega, by omega⟩) rfl (L1 := [(r0, 16, 28, .int wp_3), (r0, 16, 31, .int wb_3), (r0, 16, 30, .int pe)]) [1, 2, 3] rfl rfl rfl dX14_readString_130 (fun H_6 locs_6 hh_6 => ?_)
        clear hh_3
        refine lv_aload_n hx hb dX14_readString_133 rfl (lv_at hl 0 rfl) ?_
        refine lv_iload_n hx hb dX14_readString_134 rfl (lv_at hl 1 rfl) ?_
        refine j7_put hx hb hown hK hh_6 hB hAp hB16 (C := RX14) (T := TX14) (N := 74) rfl (by decide) hg_r0 (i := 32) (by decide) hly_16_32 rfl hlk_301 rfl (ty := .int) (v := .int pp) (by decide +kernel) rfl rfl (⟨_, rfl, by omega, by omega⟩) rfl (L1 := [(r0, 16, 29, .int z_5), (r0, 16, 28, .int wp_3), (r0, 16, 31, .int wb_3), (r0, 16, 30, .int pe)]) [0, 1, 2, 3] rfl rfl rfl dX14_readString_135 (fun H_7 locs_7 hh_7 => ?_)
        clear hh_6
        rw [hQ]
        exact W.vret hx hb hr (fun t ht hW => ⟨⟨(z_5, wp_3, wb_3, pp), rfl, by first | omega | (refine ⟨?_, ?_, ?_, ?_, ?_, ?_, ?_⟩ <;> (first | omega | rfl | assumption | decide | exact Or.inl rfl | exact Or.inr rfl | (simp only; omega))), hh_7.rt (M1 := [(r0, 16, 29, .int z_5), (r0, 16, 28, .int wp_3), (r0, 16, 31, .int wb_3), (r0, 16, 32, .int pp)]) [1, 2, 3, 0] rfl ht⟩, by rw [ht]; try exact hh_7.1.1, fun q h9 hq => by rw [ht]; try exact hh_7.1.2.1 q h9 hq⟩) hh_7.1.2.2 dX14_readString_138
      · skip
        have c_4' : wb_3.toInt = 0 := jb_ne_n (rfl) ((by decide)) c_4
        refine lv_aload_n hx hb dX14_readString_22 rfl (lv_at hl 0 rfl) ?_
        refine va_calli (A0 := jA base) (H0 := s.heap) (va_runV (As := []) (rest := []) ⟨hx, hb, hml, hown, hts⟩ (uX14_here l dC dI ca base B hB hAp hB16 hB110 G0 H_3 r0 wt_3 pe) (cwV 0 hts (jgV (jWr_50 _ (List.mem_of_getElem? (i := 20) rfl)) (jWr_50 _ (List.mem_of_getElem? (i := 21) rfl)) (jWr_50 _ (List.mem_of_getElem? (i := 22) rfl)) (jWr_1 _ (List.mem_of_getElem? (i := 5) rfl)) (jWr_50 _ (List.mem_of_getElem? (i := 23) rfl))) rfl rfl rfl (by decide +kernel) ⟨by rw [← hR]; exact Nat.le_of_ble_eq_true rfl, by rw [← hR]; exact Nat.le_of_ble_eq_true rfl⟩) ⟨fun a U g mk q => by obtain ⟨q0, q1, q2, qK, q10, q11, q12⟩ := q; exact ⟨q0, q1, q2, jG.calling g mk a qK, q10, q11, q12⟩, hh_3.recv (C := RX14) (T := TX14) (N := 74) hB16 rfl (by decide) hg_r0 hK, fun U hU hW => ⟨rfl, hU, hh_3.2.1, hG.step hW hU hh_3.1, hg_r0, (hh_3.2.2.1.sub (L1 := [(r0, 16, 29, .int wt_3), (r0, 16, 30, .int pe)]) [0, 3] rfl), by first | omega | (refine ⟨?_, ?_, ?_, ?_⟩ <;> (first | omega | rfl | assumption | decide | exact Or.inl rfl | exact Or.inr rfl | (simp only; omega)))⟩⟩ rfl rfl hl.1 rfl (lv_room (Nat.le_of_ble_eq_true rfl)) dX14_readString_23 ⟨Nat.zero_le _, Nat.zero_le _⟩) hh_3.1 (fun q _ h => h) (fun q h => h) (fun r_9 u_8 t_8 H_8 locs_8 ht_8 hvm_8 hr_9 hb_8 hz_8 hk_8 hS_8 => ?_)
        rw [ht_8] at hb_8
        obtain ⟨hb_81, hb_82, hb_83, hb_84, hb_85⟩ := hb_8
        have hh_8 : jSt (dC, dI) B base G0 G0 EX14_readString s.heap 0 0 [(r0, 16, 29, .int wt_3), (r0, 16, 28, .int wp_3), (r0, 16, 31, .int wb_3), (r0, 16, 30, .int pe)] [] [] H_8 locs_8 := ((hh_3.call hb_81 hb_82 hb_83 hb_84 hS_8 rfl (L1 := [(r0, 16, 29, .int wt_3), (r0, 16, 28, .int wp_3), (r0, 16, 31, .int wb_3), (r0, 16, 30, .int pe)]) [0, 1, 2, 3] rfl rfl (M1 := []) [] rfl rfl (I1 := []) [] rfl rfl).more hb_85)
        clear hh_3 ht_8 hvm_8 hz_8 hk_8 hS_8 hb_81 hb_82 hb_83 hb_84 hb_85
        obtain ⟨hr_9_0, hr_9_1, hr_9_2⟩ := hr_9
        refine lv_bipush (v := 34) hx hb dX14_readString_26 (by decide) ?_
        refine lv_icmp_eq (tgt := 123) hx hb dX14_readString_28 (by decide) (fun c_10 => ?_) (fun c_10 => ?_)
        · skip
          have c_10' : r_9.toInt = 34 := jb_eq (rfl) ((by decide)) c_10
          first | (have hr_9_2q := hr_9_2.resolve_left (by omega); clear hr_9_2) | (have hr_9_2q := hr_9_2.resolve_right (by omega); clear hr_9_2) | try clear hr_9_2
          refine lv_aload_n hx hb dX14_readString_123 rfl (lv_at hl 0 rfl) ?_
          refine lv_dup hx hb dX14_readString_124 rfl ?_
          refine j7_read hx hb hown hK (C := RX14) (T := TX14) (N := 74) rfl hly_16_29 hlk_273 (hh_8.at 0 rfl) dX14_readString_125 ?_
          refine lv_iconst (v := 1) hx hb dX14_readString_128 (by decide) ?_
          refine lv_iadd hx hb dX14_readString_129 ?_
          refine lv_topi (fun z_11 ez_11 => ?_)
          have hz_11 : z_11.toInt = wt_3.toInt + 1 := by rw [ez_11]; exact jb_iadd2 (rfl) ((by decide)) (by omega)
          refine j7_put hx hb hown hK hh_8 hB hAp hB16 (C := RX14) (T := TX14) (N := 74) rfl (by decide) hg_r0 (i := 29) (by decide) hly_16_29 rfl hlk_273 rfl (ty := .int) (v := .int z_11) (by decide +kernel) rfl rfl (⟨_, rfl, by omega, by omega⟩) rfl (L1 := [(r0, 16, 28, .int wp_3), (r0, 16, 31, .int wb_3), (r0, 16, 30, .int pe)]) [1, 2, 3] rfl rfl rfl dX14_readString_130 (fun H_12 locs_12 hh_12 => ?_)
          clear hh_8
          refine lv_aload_n hx hb dX14_readString_133 rfl (lv_at hl 0 rfl) ?_
          refine lv_iload_n hx hb dX14_readString_134 rfl (lv_at hl 1 rfl) ?_
          refine j7_put hx hb hown hK hh_12 hB hAp hB16 (C := RX14) (T := TX14) (N := 74) rfl (by decide) hg_r0 (i := 32) (by decide) hly_16_32 rfl hlk_301 rfl (ty := .int) (v := .int pp) (by decide +kernel) rfl rfl (⟨_, rfl, by omega, by omega⟩) rfl (L1 := [(r0, 16, 29, .int z_11), (r0, 16, 28, .int wp_3), (r0, 16, 31, .int wb_3), (r0, 16, 30, .int pe)]) [0, 1, 2, 3] rfl rfl rfl dX14_readString_135 (fun H_13 locs_13 hh_13 => ?_)
          clear hh_12
          rw [hQ]
          exact W.vret hx hb hr (fun t ht hW => ⟨⟨(z_11, wp_3, wb_3, pp), rfl, by first | omega | (refine ⟨?_, ?_, ?_, ?_, ?_, ?_, ?_⟩ <;> (first | omega | rfl | assumption | decide | exact Or.inl rfl | exact Or.inr rfl | (simp only; omega))), hh_13.rt (M1 := [(r0, 16, 29, .int z_11), (r0, 16, 28, .int wp_3), (r0, 16, 31, .int wb_3), (r0, 16, 32, .int pp)]) [1, 2, 3, 0] rfl ht⟩, by rw [ht]; try exact hh_13.1.1, fun q h9 hq => by rw [ht]; try exact hh_13.1.2.1 q h9 hq⟩) hh_13.1.2.2 dX14_readString_138
        · skip
          have c_10' : r_9.toInt ≠ 34 := jb_eq_n (rfl) ((by decide)) c_10
          try clear hr_9_2
          refine lv_aload_n hx hb dX14_readString_31 rfl (lv_at hl 0 rfl) ?_
          refine va_calli (A0 := jA base) (H0 := s.heap) (va_runV (As := []) (rest := []) ⟨hx, hb, hml, hown, hts⟩ (uX14_here l dC dI ca base B hB hAp hB16 hB110 G0 H_8 r0 wt_3 pe) (cwV 0 hts (jgV (jWr_50 _ (List.mem_of_getElem? (i := 20) rfl)) (jWr_50 _ (List.mem_of_getElem? (i := 21) rfl)) (jWr_50 _ (List.mem_of_getElem? (i := 22) rfl)) (jWr_1 _ (List.mem_of_getElem? (i := 5) rfl)) (jWr_50 _ (List.mem_of_getElem? (i := 23) rfl))) rfl rfl rfl (by decide +kernel) ⟨by rw [← hR]; exact Nat.le_of_ble_eq_true rfl, by rw [← hR]; exact Nat.le_of_ble_eq_true rfl⟩) ⟨fun a U g mk q => by obtain ⟨q0, q1, q2, qK, q10, q11, q12⟩ := q; exact ⟨q0, q1, q2, jG.calling g mk a qK, q10, q11, q12⟩, hh_8.recv (C := RX14) (T := TX14) (N := 74) hB16 rfl (by decide) hg_r0 hK, fun U hU hW => ⟨rfl, hU, hh_8.2.1, hG.step hW hU hh_8.1, hg_r0, (hh_8.2.2.1.sub (L1 := [(r0, 16, 29, .int wt_3), (r0, 16, 30, .int pe)]) [0, 3] rfl), by first | omega | (refine ⟨?_, ?_, ?_, ?_⟩ <;> (first | omega | rfl | assumption | decide | exact Or.inl rfl | exact Or.inr rfl | (simp only; omega)))⟩⟩ rfl rfl hl.1 rfl (lv_room (Nat.le_of_ble_eq_true rfl)) dX14_readString_32 ⟨Nat.zero_le _, Nat.zero_le _⟩) hh_8.1 (fun q _ h => h) (fun q h => h) (fun r_15 u_14 t_14 H_14 locs_14 ht_14 hvm_14 hr_15 hb_14 hz_14 hk_14 hS_14 => ?_)
          rw [ht_14] at hb_14
          obtain ⟨hb_141, hb_142, hb_143, hb_144, hb_145⟩ := hb_14
          have hh_14 : jSt (dC, dI) B base G0 G0 EX14_readString s.heap 0 0 [(r0, 16, 29, .int wt_3), (r0, 16, 28, .int wp_3), (r0, 16, 31, .int wb_3), (r0, 16, 30, .int pe)] [] [] H_14 locs_14 := ((hh_8.call hb_141 hb_142 hb_143 hb_144 hS_14 rfl (L1 := [(r0, 16, 29, .int wt_3), (r0, 16, 28, .int wp_3), (r0, 16, 31, .int wb_3), (r0, 16, 30, .int pe)]) [0, 1, 2, 3] rfl rfl (M1 := []) [] rfl rfl (I1 := []) [] rfl rfl).more hb_145)
          clear hh_8 ht_14 hvm_14 hz_14 hk_14 hS_14 hb_141 hb_142 hb_143 hb_144 hb_145
          obtain ⟨hr_15_0, hr_15_1, hr_15_2⟩ := hr_15
          refine lv_istore_n (lv' := [(2, .int r_15), (0, .ref r0), (1, .int pp)]) hx hb dX14_readString_35 rfl hl (by decide) rfl (fun ls hl => ?_)
          refine lv_iload_n hx hb dX14_readString_36 rfl (lv_at hl 0 rfl) ?_
          refine lv_bipush (v := 32) hx hb dX14_readString_37 (by decide) ?_
          refine lv_icmp_ge (tgt := 50) hx hb dX14_readString_39 (by decide) (fun c_16 => ?_) (fun c_16 => ?_)
          · skip
            have c_16' : r_15.toInt ≥ 32 := jb_ge (rfl) ((by decide)) c_16
            first | (have hr_15_2q := hr_15_2.resolve_left (by omega); clear hr_15_2) | (have hr_15_2q := hr_15_2.resolve_right (by omega); clear hr_15_2) | skip
            refine lv_iload_n hx hb dX14_readString_50 rfl (lv_at hl 0 rfl) ?_
            refine lv_bipush (v := 92) hx hb dX14_readString_51 (by decide) ?_
            refine lv_icmp_ne (tgt := 73) hx hb dX14_readString_53 (by decide) (fun c_17 => ?_) (fun c_17 => ?_)
            · skip
              have c_17' : r_15.toInt ≠ 92 := jb_ne (rfl) ((by decide)) c_17
              refine lv_aload_n hx hb dX14_readString_73 rfl (lv_at hl 1 rfl) ?_
              refine lv_aload_n hx hb dX14_readString_74 rfl (lv_at hl 1 rfl) ?_
              obtain ⟨v_18, hv_18, hh_19⟩ := hh_14.pin (C := RX14) (T := TX14) (N := 74) hB16 rfl (by decide) hg_r0 (i := 9) (by decide) rfl
              clear hh_14
              obtain ⟨kept_20, rfl, hg_kept_20⟩ := hv_18
              refine j7_read hx hb hown hK (C := RX14) (T := TX14) (N := 74) rfl hly_16_9 hlk_20 (hh_19.at 0 rfl) dX14_readString_75 ?_
              refine lv_aload_n hx hb dX14_readString_78 rfl (lv_at hl 1 rfl) ?_
              refine j7_read hx hb hown hK (C := RX14) (T := TX14) (N := 74) rfl hly_16_29 hlk_273 (hh_19.at 1 rfl) dX14_readString_79 ?_
              refine lv_aload_n hx hb dX14_readString_82 rfl (lv_at hl 1 rfl) ?_
              refine j7_read hx hb hown hK (C := RX14) (T := TX14) (N := 74) rfl hly_16_30 hlk_276 (hh_19.at 4 rfl) dX14_readString_83 ?_
              refine va_calli (A0 := jA base) (H0 := s.heap) (va_runV (As := [.ref kept_20, .int wt_3, .int pe]) (rest := []) ⟨hx, hb, hml, hown, hts⟩ (uX14_utfLength l dC dI ca base B hB hAp hB16 hB110 G0 H_14 r0 kept_20 wt_3 pe 3300) (cwV 3 hts (jgV (jWr_52 _ (List.mem_of_getElem? (i := 14) rfl)) (jWr_52 _ (List.mem_of_getElem? (i := 15) rfl)) (jWr_52 _ (List.mem_of_getElem? (i := 16) rfl)) (jWr_1 _ (List.mem_of_getElem? (i := 5) rfl)) (jWr_52 _ (List.mem_of_getElem? (i := 17) rfl))) rfl rfl rfl (by decide +kernel) ⟨by rw [← hR]; exact Nat.le_of_ble_eq_true rfl, by rw [← hR]; exact Nat.le_of_ble_eq_true rfl⟩) ⟨fun a U g mk q => by obtain ⟨q0, q1, q2, qK, q10, q11, q12, q13⟩ := q; exact ⟨q0, q1, q2, jG.calling g mk a qK, q10, q11, q12, q13⟩, hh_19.recv (C := RX14) (T := TX14) (N := 74) hB16 rfl (by decide) hg_r0 hK, fun U hU hW => ⟨rfl, hU, hh_19.2.1, hG.step hW hU hh_19.1, hg_kept_20, hg_r0, jP.nil, by first | omega | (refine ⟨?_, ?_, ?_, ?_⟩ <;> (first | omega | rfl | assumption | decide | exact Or.inl rfl | exact Or.inr rfl | (simp only; omega)))⟩⟩ rfl rfl hl.1 rfl (lv_room (Nat.le_of_ble_eq_true rfl)) dX14_readString_86 ⟨Nat.zero_le _, Nat.zero_le _⟩) hh_19.1 (fun q _ h => h) (fun q h => h) (fun r_22 u_21 t_21 H_21 locs_21 ht_21 hvm_21 hr_22 hb_21 hz_21 hk_21 hS_21 => ?_)
              obtain ⟨qc_21, rfl⟩ : ∃ z, z = u_21 := ⟨_, rfl⟩
              rw [ht_21] at hb_21
              obtain ⟨hb_211, hb_212, hb_213, hb_214, hb_215⟩ := hb_21
              have hh_21 : jSt (dC, dI) B base G0 G0 EX14_readString s.heap 0 0 [(r0, 16, 33, .int qc_21), (r0, 16, 9, .ref kept_20), (r0, 16, 29, .int wt_3), (r0, 16, 28, .int wp_3), (r0, 16, 31, .int wb_3), (r0, 16, 30, .int pe)] [] [] H_21 locs_21 := ((hh_19.call hb_211 hb_212 hb_213 hb_214 hS_21 rfl (L1 := [(r0, 16, 9, .ref kept_20), (r0, 16, 29, .int wt_3), (r0, 16, 28, .int wp_3), (r0, 16, 31, .int wb_3), (r0, 16, 30, .int pe)]) [0, 1, 2, 3, 4] rfl rfl (M1 := []) [] rfl rfl (I1 := []) [] rfl rfl).more hb_215)
              clear hh_19 ht_21 hvm_21 hz_21 hk_21 hS_21 hb_211 hb_212 hb_213 hb_214 hb_215
              refine lv_istore_n (lv' := [(3, .int r_22), (2, .int r_15), (0, .ref r0), (1, .int pp)]) hx hb dX14_readString_89 rfl hl (by decide) rfl (fun ls hl => ?_)
              refine lv_iload_n hx hb dX14_readString_90 rfl (lv_at hl 0 rfl) ?_
              refine lv_if_ne (tgt := 102) hx hb dX14_readString_91 (by decide) (fun c_23 => ?_) (fun c_23 => ?_)
              · skip
                have c_23' : r_22.toInt ≠ 0 := jb_ne (rfl) ((by decide)) c_23
                refine lv_aload_n hx hb dX14_readString_102 rfl (lv_at hl 2 rfl) ?_
                refine lv_aload_n hx hb dX14_readString_103 rfl (lv_at hl 2 rfl) ?_
                refine j7_read hx hb hown hK (C := RX14) (T := TX14) (N := 74) rfl hly_16_33 hlk_357 (hh_21.at 0 rfl) dX14_readString_104 ?_
                refine va_callv (A0 := jA base) (H0 := s.heap) (va_runV (As := [.int qc_21]) (rest := []) ⟨hx, hb, hml, hown, hts⟩ (uX14_unit l dC dI ca base B hB hAp hB16 hB127 G0 H_21 r0 qc_21 wp_3) (cwV 1 hts (jgV (jWr_51 _ (List.mem_of_getElem? (i := 21) rfl)) (jWr_51 _ (List.mem_of_getElem? (i := 22) rfl)) (jWr_51 _ (List.mem_of_getElem? (i := 23) rfl)) (jWr_1 _ (List.mem_of_getElem? (i := 5) rfl)) (jWr_52 _ (List.mem_of_getElem? (i := 0) rfl))) rfl rfl rfl (by decide +kernel) ⟨by rw [← hR]; exact Nat.le_of_ble_eq_true rfl, by rw [← hR]; exact Nat.le_of_ble_eq_true rfl⟩) ⟨fun a U g mk q => by obtain ⟨q0, q1, q2, qK, q10, q11, q12⟩ := q; exact ⟨q0, q1, q2, jG.calling g mk a qK, q10, q11, q12⟩, hh_21.recv (C := RX14) (T := TX14) (N := 74) hB16 rfl (by decide) hg_r0 hK, fun U hU hW => ⟨rfl, hU, hh_21.2.1, hG.step hW hU hh_21.1, hg_r0, (hh_21.2.2.1.sub (L1 := [(r0, 16, 28, .int wp_3)]) [3] rfl), by first | omega | (refine ⟨?_, ?_⟩ <;> (first | omega | rfl | assumption | decide | exact Or.inl rfl | exact Or.inr rfl | (simp only; omega)))⟩⟩ rfl rfl hl.1 rfl (lv_room (Nat.le_of_ble_eq_true rfl)) dX14_readString_107 ⟨Nat.zero_le _, Nat.zero_le _⟩) hh_21.1 (fun q _ h => h) (fun q h => h) (fun u_24 t_24 H_24 locs_24 ht_24 hvm_24 hr_25 hb_24 hz_24 hk_24 hS_24 => ?_)
                obtain ⟨qp_24, rfl⟩ : ∃ z, z = u_24 := ⟨_, rfl⟩
                rw [ht_24] at hb_24
                obtain ⟨hb_241, hb_242, hb_243, hb_244, hb_245⟩ := hb_24
                have hh_24 : jSt (dC, dI) B base G0 G0 EX14_readString s.heap 0 0 [(r0, 16, 28, .int qp_24), (r0, 16, 33, .int qc_21), (r0, 16, 9, .ref kept_20), (r0, 16, 29, .int wt_3), (r0, 16, 31, .int wb_3), (r0, 16, 30, .int pe)] [] [] H_24 locs_24 := ((hh_21.call hb_241 hb_242 hb_243 hb_244 hS_24 rfl (L1 := [(r0, 16, 33, .int qc_21), (r0, 16, 9, .ref kept_20), (r0, 16, 29, .int wt_3), (r0, 16, 31, .int wb_3), (r0, 16, 30, .int pe)]) [0, 1, 2, 4, 5] rfl rfl (M1 := []) [] rfl rfl (I1 := []) [] rfl rfl).more hb_245)
                clear hh_21 ht_24 hvm_24 hz_24 hk_24 hS_24 hb_241 hb_242 hb_243 hb_244 hb_245
                obtain ⟨hr_25_0, hr_25_1, hr_25_2⟩ := hr_25
                refine lv_aload_n hx hb dX14_readString_110 rfl (lv_at hl 2 rfl) ?_
                refine lv_dup hx hb dX14_readString_111 rfl ?_
                refine j7_read hx hb hown hK (C := RX14) (T := TX14) (N := 74) rfl hly_16_29 hlk_273 (hh_24.at 3 rfl) dX14_readString_112 ?_
                refine lv_iload_n hx hb dX14_readString_115 rfl (lv_at hl 0 rfl) ?_
                refine lv_iadd hx hb dX14_readString_116 ?_
                refine lv_topi (fun z_26 ez_26 => ?_)
                have hz_26 : z_26.toInt = wt_3.toInt + r_22.toInt := by rw [ez_26]; exact jb_iadd2 (rfl) (rfl) (by omega)
                refine j7_put hx hb hown hK hh_24 hB hAp hB16 (C := RX14) (T := TX14) (N := 74) rfl (by decide) hg_r0 (i := 29) (by decide) hly_16_29 rfl hlk_273 rfl (ty := .int) (v := .int z_26) (by decide +kernel) rfl rfl (⟨_, rfl, by omega, by omega⟩) rfl (L1 := [(r0, 16, 28, .int qp_24), (r0, 16, 33, .int qc_21), (r0, 16, 9, .ref kept_20), (r0, 16, 31, .int wb_3), (r0, 16, 30, .int pe)]) [0, 1, 2, 4, 5] rfl rfl rfl dX14_readString_117 (fun H_27 locs_27 hh_27 => ?_)
                clear hh_24
                refine lv_goto (tgt := 15) hx hb dX14_readString_120 (by decide) ?_
                exact L15 z_26 qp_24 wb_3 _ _ (hh_27.sub (L1 := [(r0, 16, 29, .int z_26), (r0, 16, 28, .int qp_24), (r0, 16, 31, .int wb_3), (r0, 16, 30, .int pe)]) [0, 1, 4, 5] rfl (M1 := []) [] rfl (I1 := []) [] rfl) (by first | omega | (refine ⟨?_, ?_, ?_, ?_, ?_, ?_⟩ <;> (first | omega | rfl | assumption | decide | exact Or.inl rfl | exact Or.inr rfl | (simp only; omega)))) (by omega) _ (lv_sub hl [2, 3] rfl)
              · skip
                have c_23' : r_22.toInt = 0 := jb_ne_n (rfl) ((by decide)) c_23
                first | (have hr_22q := hr_22.resolve_left (by omega); clear hr_22) | (have hr_22q := hr_22.resolve_right (by omega); clear hr_22) | skip
                refine lv_aload_n hx hb dX14_readString_94 rfl (lv_at hl 2 rfl) ?_
                refine lv_iconst (v := 1) hx hb dX14_readString_95 (by decide) ?_
                refine j7_put hx hb hown hK hh_21 hB hAp hB16 (C := RX14) (T := TX14) (N := 74) rfl (by decide) hg_r0 (i := 31) (by decide) hly_16_31 rfl hlk_288 rfl (ty := .boolean) (v := .int 1) (by decide +kernel) (jb_nz (Or.inr rfl)) (jb_fz (Or.inr rfl)) (⟨_, rfl, (Or.inr rfl)⟩) rfl (L1 := [(r0, 16, 33, .int qc_21), (r0, 16, 9, .ref kept_20), (r0, 16, 29, .int wt_3), (r0, 16, 28, .int wp_3), (r0, 16, 30, .int pe)]) [0, 1, 2, 3, 5] rfl rfl rfl dX14_readString_96 (fun H_28 locs_28 hh_28 => ?_)
                clear hh_21
                refine lv_goto (tgt := 110) hx hb dX14_readString_99 (by decide) ?_
                refine lv_aload_n hx hb dX14_readString_110 rfl (lv_at hl 2 rfl) ?_
                refine lv_dup hx hb dX14_readString_111 rfl ?_
                refine j7_read hx hb hown hK (C := RX14) (T := TX14) (N := 74) rfl hly_16_29 hlk_273 (hh_28.at 3 rfl) dX14_readString_112 ?_
                refine lv_iload_n hx hb dX14_readString_115 rfl (lv_at hl 0 rfl) ?_
                refine lv_iadd hx hb dX14_readString_116 ?_
                refine lv_topi (fun z_29 ez_29 => ?_)
                have hz_29 : z_29.toInt = wt_3.toInt + r_22.toInt := by rw [ez_29]; exact jb_iadd2 (rfl) (rfl) (by omega)
                refine j7_put hx hb hown hK hh_28 hB hAp hB16 (C := RX14) (T := TX14) (N := 74) rfl (by decide) hg_r0 (i := 29) (by decide) hly_16_29 rfl hlk_273 rfl (ty := .int) (v := .int z_29) (by decide +kernel) rfl rfl (⟨_, rfl, by omega, by omega⟩) rfl (L1 := [(r0, 16, 31, .int 1), (r0, 16, 33, .int qc_21), (r0, 16, 9, .ref kept_20), (r0, 16, 28, .int wp_3), (r0, 16, 30, .int pe)]) [0, 1, 2, 4, 5] rfl rfl rfl dX14_readString_117 (fun H_30 locs_30 hh_30 => ?_)
                clear hh_28
                refine lv_goto (tgt := 15) hx hb dX14_readString_120 (by decide) ?_
                exact L15 z_29 wp_3 1 _ _ (hh_30.sub (L1 := [(r0, 16, 29, .int z_29), (r0, 16, 28, .int wp_3), (r0, 16, 31, .int 1), (r0, 16, 30, .int pe)]) [0, 4, 1, 5] rfl (M1 := []) [] rfl (I1 := []) [] rfl) (by first | omega | (refine ⟨?_, ?_, ?_, ?_, ?_, ?_⟩ <;> (first | omega | rfl | assumption | decide | exact Or.inl rfl | exact Or.inr rfl | (simp only; omega)))) (by omega) _ (lv_sub hl [2, 3] rfl)
            · skip
              have c_17' : r_15.toInt = 92 := jb_ne_n (rfl) ((by decide)) c_17
              first | (have hr_15_2q := hr_15_2.resolve_left (by omega); clear hr_15_2) | (have hr_15_2q := hr_15_2.resolve_right (by omega); clear hr_15_2) | skip
              refine lv_aload_n hx hb dX14_readString_56 rfl (lv_at hl 1 rfl) ?_
              refine lv_dup hx hb dX14_readString_57 rfl ?_
              refine j7_read hx hb hown hK (C := RX14) (T := TX14) (N := 74) rfl hly_16_29 hlk_273 (hh_14.at 0 rfl) dX14_readString_58 ?_
              refine lv_iconst (v := 1) hx hb dX14_readString_61 (by decide) ?_
              refine lv_iadd hx hb dX14_readString_62 ?_
              refine lv_topi (fun z_31 ez_31 => ?_)
              have hz_31 : z_31.toInt = wt_3.toInt + 1 := by rw [ez_31]; exact jb_iadd2 (rfl) ((by decide)) (by omega)
              refine j7_put hx hb hown hK hh_14 hB hAp hB16 (C := RX14) (T := TX14) (N := 74) rfl (by decide) hg_r0 (i := 29) (by decide) hly_16_29 rfl hlk_273 rfl (ty := .int) (v := .int z_31) (by decide +kernel) rfl rfl (⟨_, rfl, by omega, by omega⟩) rfl (L1 := [(r0, 16, 28, .int wp_3), (r0, 16, 31, .int wb_3), (r0, 16, 30, .int pe)]) [1, 2, 3] rfl rfl rfl dX14_readString_63 (fun H_32 locs_32 hh_32 => ?_)
              clear hh_14
              refine lv_aload_n hx hb dX14_readString_66 rfl (lv_at hl 1 rfl) ?_
              refine va_callv (A0 := jA base) (H0 := s.heap) (va_runV (As := []) (rest := []) ⟨hx, hb, hml, hown, hts⟩ (uX14_escape l dC dI ca base B hB hAp hB16 hB110 hB127 G0 H_32 r0 z_31 pe wp_3 wb_3) (cwV 0 hts (jgV (jWr_51 _ (List.mem_of_getElem? (i := 12) rfl)) (jWr_51 _ (List.mem_of_getElem? (i := 13) rfl)) (jWr_51 _ (List.mem_of_getElem? (i := 14) rfl)) (jWr_1 _ (List.mem_of_getElem? (i := 5) rfl)) (jWr_51 _ (List.mem_of_getElem? (i := 15) rfl))) rfl rfl rfl (by decide +kernel) ⟨by rw [← hR]; exact Nat.le_of_ble_eq_true rfl, by rw [← hR]; exact Nat.le_of_ble_eq_true rfl⟩) ⟨fun a U g mk q => by obtain ⟨q0, q1, q2, qK, q10, q11, q12⟩ := q; exact ⟨q0, q1, q2, jG.calling g mk a qK, q10, q11, q12⟩, hh_32.recv (C := RX14) (T := TX14) (N := 74) hB16 rfl (by decide) hg_r0 hK, fun U hU hW => ⟨rfl, hU, hh_32.2.1, hG.step hW hU hh_32.1, hg_r0, (hh_32.2.2.1.sub (L1 := [(r0, 16, 29, .int z_31), (r0, 16, 30, .int pe), (r0, 16, 28, .int wp_3), (r0, 16, 31, .int wb_3)]) [0, 3, 1, 2] rfl), by first | omega | (refine ⟨?_, ?_, ?_, ?_, ?_, ?_, ?_, ?_⟩ <;> (first | omega | rfl | assumption | decide | exact Or.inl rfl | exact Or.inr rfl | (simp only; omega)))⟩⟩ rfl rfl hl.1 rfl (lv_room (Nat.le_of_ble_eq_true rfl)) dX14_readString_67 ⟨Nat.zero_le _, Nat.zero_le _⟩) hh_32.1 (fun q _ h => h) (fun q h => h) (fun u_33 t_33 H_33 locs_33 ht_33 hvm_33 hr_34 hb_33 hz_33 hk_33 hS_33 => ?_)
              obtain ⟨qt_33, qp_33, qb_33⟩ := u_33
              rw [ht_33] at hb_33
              obtain ⟨hb_331, hb_332, hb_333, hb_334, hb_335⟩ := hb_33
              have hh_33 : jSt (dC, dI) B base G0 G0 EX14_readString s.heap 0 0 [(r0, 16, 29, .int qt_33), (r0, 16, 28, .int qp_33), (r0, 16, 31, .int qb_33), (r0, 16, 30, .int pe)] [] [] H_33 locs_33 := ((hh_32.call hb_331 hb_332 hb_333 hb_334 hS_33 rfl (L1 := [(r0, 16, 30, .int pe)]) [3] rfl rfl (M1 := []) [] rfl rfl (I1 := []) [] rfl rfl).more hb_335)
              clear hh_32 ht_33 hvm_33 hz_33 hk_33 hS_33 hb_331 hb_332 hb_333 hb_334 hb_335
              try simp only at hr_34
              obtain ⟨hr_34_0, hr_34_1, hr_34_2, hr_34_3, hr_34_4, hr_34_5, hr_34_6⟩ := hr_34
              refine lv_goto (tgt := 120) hx hb dX14_readString_70 (by decide) ?_
              refine lv_goto (tgt := 15) hx hb dX14_readString_120 (by decide) ?_
              exact L15 qt_33 qp_33 qb_33 _ _ hh_33 (by first | omega | (refine ⟨?_, ?_, ?_, ?_, ?_, ?_⟩ <;> (first | omega | rfl | assumption | decide | exact Or.inl rfl | exact Or.inr rfl | (simp only; omega)))) (by omega) _ (lv_sub hl [1, 2] rfl)
          · skip
            have c_16' : r_15.toInt < 32 := jb_ge_n (rfl) ((by decide)) c_16
            first | (have hr_15_2q := hr_15_2.resolve_left (by omega); clear hr_15_2) | (have hr_15_2q := hr_15_2.resolve_right (by omega); clear hr_15_2) | skip
            refine lv_aload_n hx hb dX14_readString_42 rfl (lv_at hl 1 rfl) ?_
            refine lv_iconst (v := 1) hx hb dX14_readString_43 (by decide) ?_
            refine j7_put hx hb hown hK hh_14 hB hAp hB16 (C := RX14) (T := TX14) (N := 74) rfl (by decide) hg_r0 (i := 31) (by decide) hly_16_31 rfl hlk_288 rfl (ty := .boolean) (v := .int 1) (by decide +kernel) (jb_nz (Or.inr rfl)) (jb_fz (Or.inr rfl)) (⟨_, rfl, (Or.inr rfl)⟩) rfl (L1 := [(r0, 16, 29, .int wt_3), (r0, 16, 28, .int wp_3), (r0, 16, 30, .int pe)]) [0, 1, 3] rfl rfl rfl dX14_readString_44 (fun H_35 locs_35 hh_35 => ?_)
            clear hh_14
            refine lv_goto (tgt := 120) hx hb dX14_readString_47 (by decide) ?_
            refine lv_goto (tgt := 15) hx hb dX14_readString_120 (by decide) ?_
            exact L15 wt_3 wp_3 1 _ _ (hh_35.sub (L1 := [(r0, 16, 29, .int wt_3), (r0, 16, 28, .int wp_3), (r0, 16, 31, .int 1), (r0, 16, 30, .int pe)]) [1, 2, 0, 3] rfl (M1 := []) [] rfl (I1 := []) [] rfl) (by first | omega | (refine ⟨?_, ?_, ?_, ?_, ?_, ?_⟩ <;> (first | omega | rfl | assumption | decide | exact Or.inl rfl | exact Or.inr rfl | (simp only; omega)))) (by omega) _ (lv_sub hl [1, 2] rfl)
  exact L15 (((pe.toInt - (z_1 : Int32).toInt).toNat : Int) + (1 - (pb : Int32).toInt) : Int).toNat.succ z_1 pp pb _ _ (hh_2.sub (L1 := [(r0, 16, 29, .int z_1), (r0, 16, 28, .int pp), (r0, 16, 31, .int pb), (r0, 16, 30, .int pe)]) [0, 2, 3, 1] rfl (M1 := []) [] rfl (I1 := []) [] rfl) (by first | omega | (refine ⟨?_, ?_, ?_, ?_, ?_, ?_⟩ <;> (first | omega | rfl | assumption | decide | exact Or.inl rfl | exact Or.inr rfl | (simp only; omega)))) (by omega) _ (lv_sub hl [1, 0] rfl)
end
