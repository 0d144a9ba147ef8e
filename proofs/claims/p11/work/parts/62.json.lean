theorem dX4_isColon_0 : decode cX4_isColon 0 = .ok (.aload_n 0, 1) := by decide +kernel
theorem dX4_isColon_1 : decode cX4_isColon 1 = .ok (.invokevirtual 56, 3) := by decide +kernel
theorem dX4_isColon_4 : decode cX4_isColon 4 = .ok (.aload_n 0, 1) := by decide +kernel
theorem dX4_isColon_5 : decode cX4_isColon 5 = .ok (.invokevirtual 89, 3) := by decide +kernel
theorem dX4_isColon_8 : decode cX4_isColon 8 = .ok (.bipush 58, 2) := by decide +kernel
theorem dX4_isColon_10 : decode cX4_isColon 10 = .ok (.if_icmp .ne 7, 3) := by decide +kernel
theorem dX4_isColon_13 : decode cX4_isColon 13 = .ok (.iconst 1, 1) := by decide +kernel
theorem dX4_isColon_14 : decode cX4_isColon 14 = .ok (.goto 4, 3) := by decide +kernel
theorem dX4_isColon_17 : decode cX4_isColon 17 = .ok (.iconst 0, 1) := by decide +kernel
theorem dX4_isColon_18 : decode cX4_isColon 18 = .ok (.istore_n 1, 1) := by decide +kernel
theorem dX4_isColon_19 : decode cX4_isColon 19 = .ok (.aload_n 0, 1) := by decide +kernel
theorem dX4_isColon_20 : decode cX4_isColon 20 = .ok (.dup, 1) := by decide +kernel
theorem dX4_isColon_21 : decode cX4_isColon 21 = .ok (.getfield 47, 3) := by decide +kernel
theorem dX4_isColon_24 : decode cX4_isColon 24 = .ok (.iconst 1, 1) := by decide +kernel
theorem dX4_isColon_25 : decode cX4_isColon 25 = .ok (.iadd, 1) := by decide +kernel
theorem dX4_isColon_26 : decode cX4_isColon 26 = .ok (.putfield 47, 3) := by decide +kernel
theorem dX4_isColon_29 : decode cX4_isColon 29 = .ok (.aload_n 0, 1) := by decide +kernel
theorem dX4_isColon_30 : decode cX4_isColon 30 = .ok (.invokevirtual 56, 3) := by decide +kernel
theorem dX4_isColon_33 : decode cX4_isColon 33 = .ok (.iload_n 1, 1) := by decide +kernel
theorem dX4_isColon_34 : decode cX4_isColon 34 = .ok (.ireturn, 1) := by decide +kernel
theorem dX4_isWord_0 : decode cX4_isWord 0 = .ok (.iconst 0, 1) := by decide +kernel
theorem dX4_isWord_1 : decode cX4_isWord 1 = .ok (.istore_n 2, 1) := by decide +kernel
theorem dX4_isWord_2 : decode cX4_isWord 2 = .ok (.iload_n 2, 1) := by decide +kernel
theorem dX4_isWord_3 : decode cX4_isWord 3 = .ok (.aload_n 1, 1) := by decide +kernel
theorem dX4_isWord_4 : decode cX4_isWord 4 = .ok (.invokevirtual 70, 3) := by decide +kernel
theorem dX4_isWord_7 : decode cX4_isWord 7 = .ok (.if_icmp .ge 43, 3) := by decide +kernel
theorem dX4_isWord_10 : decode cX4_isWord 10 = .ok (.aload_n 0, 1) := by decide +kernel
theorem dX4_isWord_11 : decode cX4_isWord 11 = .ok (.getfield 47, 3) := by decide +kernel
theorem dX4_isWord_14 : decode cX4_isWord 14 = .ok (.iload_n 2, 1) := by decide +kernel
theorem dX4_isWord_15 : decode cX4_isWord 15 = .ok (.iadd, 1) := by decide +kernel
theorem dX4_isWord_16 : decode cX4_isWord 16 = .ok (.aload_n 0, 1) := by decide +kernel
theorem dX4_isWord_17 : decode cX4_isWord 17 = .ok (.getfield 43, 3) := by decide +kernel
theorem dX4_isWord_20 : decode cX4_isWord 20 = .ok (.if_icmp .ge 22, 3) := by decide +kernel
theorem dX4_isWord_23 : decode cX4_isWord 23 = .ok (.aload_n 0, 1) := by decide +kernel
theorem dX4_isWord_24 : decode cX4_isWord 24 = .ok (.getfield 33, 3) := by decide +kernel
theorem dX4_isWord_27 : decode cX4_isWord 27 = .ok (.aload_n 0, 1) := by decide +kernel
theorem dX4_isWord_28 : decode cX4_isWord 28 = .ok (.getfield 47, 3) := by decide +kernel
theorem dX4_isWord_31 : decode cX4_isWord 31 = .ok (.iload_n 2, 1) := by decide +kernel
theorem dX4_isWord_32 : decode cX4_isWord 32 = .ok (.iadd, 1) := by decide +kernel
theorem dX4_isWord_33 : decode cX4_isWord 33 = .ok (.baload, 1) := by decide +kernel
theorem dX4_isWord_34 : decode cX4_isWord 34 = .ok (.aload_n 1, 1) := by decide +kernel
theorem dX4_isWord_35 : decode cX4_isWord 35 = .ok (.iload_n 2, 1) := by decide +kernel
theorem dX4_isWord_36 : decode cX4_isWord 36 = .ok (.invokevirtual 76, 3) := by decide +kernel
theorem dX4_isWord_39 : decode cX4_isWord 39 = .ok (.if_icmp .eq 5, 3) := by decide +kernel
theorem dX4_isWord_42 : decode cX4_isWord 42 = .ok (.iconst 0, 1) := by decide +kernel
theorem dX4_isWord_43 : decode cX4_isWord 43 = .ok (.ireturn, 1) := by decide +kernel
theorem dX4_isWord_44 : decode cX4_isWord 44 = .ok (.iinc 2 1, 3) := by decide +kernel
theorem dX4_isWord_47 : decode cX4_isWord 47 = .ok (.goto (-45), 3) := by decide +kernel
theorem dX4_isWord_50 : decode cX4_isWord 50 = .ok (.aload_n 0, 1) := by decide +kernel
theorem dX4_isWord_51 : decode cX4_isWord 51 = .ok (.dup, 1) := by decide +kernel
theorem dX4_isWord_52 : decode cX4_isWord 52 = .ok (.getfield 47, 3) := by decide +kernel
theorem dX4_isWord_55 : decode cX4_isWord 55 = .ok (.aload_n 1, 1) := by decide +kernel
theorem dX4_isWord_56 : decode cX4_isWord 56 = .ok (.invokevirtual 70, 3) := by decide +kernel
theorem dX4_isWord_59 : decode cX4_isWord 59 = .ok (.iadd, 1) := by decide +kernel
theorem dX4_isWord_60 : decode cX4_isWord 60 = .ok (.putfield 47, 3) := by decide +kernel
theorem dX4_isWord_63 : decode cX4_isWord 63 = .ok (.iconst 1, 1) := by decide +kernel
theorem dX4_isWord_64 : decode cX4_isWord 64 = .ok (.ireturn, 1) := by decide +kernel
theorem dX4_number_0 : decode cX4_number 0 = .ok (.aload_n 0, 1) := by decide +kernel
theorem dX4_number_1 : decode cX4_number 1 = .ok (.invokevirtual 89, 3) := by decide +kernel
theorem dX4_number_4 : decode cX4_number 4 = .ok (.bipush 45, 2) := by decide +kernel
theorem dX4_number_6 : decode cX4_number 6 = .ok (.if_icmp .ne 7, 3) := by decide +kernel
theorem dX4_number_9 : decode cX4_number 9 = .ok (.iconst 1, 1) := by decide +kernel
theorem dX4_number_10 : decode cX4_number 10 = .ok (.goto 4, 3) := by decide +kernel
theorem dX4_number_13 : decode cX4_number 13 = .ok (.iconst 0, 1) := by decide +kernel
theorem dX4_number_14 : decode cX4_number 14 = .ok (.istore_n 1, 1) := by decide +kernel
theorem dX4_number_15 : decode cX4_number 15 = .ok (.iload_n 1, 1) := by decide +kernel
theorem dX4_number_16 : decode cX4_number 16 = .ok (.ifCond .eq 13, 3) := by decide +kernel
theorem dX4_number_19 : decode cX4_number 19 = .ok (.aload_n 0, 1) := by decide +kernel
theorem dX4_number_20 : decode cX4_number 20 = .ok (.dup, 1) := by decide +kernel
theorem dX4_number_21 : decode cX4_number 21 = .ok (.getfield 47, 3) := by decide +kernel
theorem dX4_number_24 : decode cX4_number 24 = .ok (.iconst 1, 1) := by decide +kernel
theorem dX4_number_25 : decode cX4_number 25 = .ok (.iadd, 1) := by decide +kernel
theorem dX4_number_26 : decode cX4_number 26 = .ok (.putfield 47, 3) := by decide +kernel
theorem dX4_number_29 : decode cX4_number 29 = .ok (.aload_n 0, 1) := by decide +kernel
theorem dX4_number_30 : decode cX4_number 30 = .ok (.getfield 47, 3) := by decide +kernel
theorem dX4_number_33 : decode cX4_number 33 = .ok (.istore_n 2, 1) := by decide +kernel
theorem dX4_number_34 : decode cX4_number 34 = .ok (.aload_n 0, 1) := by decide +kernel
theorem dX4_number_35 : decode cX4_number 35 = .ok (.invokevirtual 127, 3) := by decide +kernel
theorem dX4_number_38 : decode cX4_number 38 = .ok (.istore_n 3, 1) := by decide +kernel
theorem dX4_number_39 : decode cX4_number 39 = .ok (.iload_n 3, 1) := by decide +kernel
theorem dX4_number_40 : decode cX4_number 40 = .ok (.ifCond .eq 19, 3) := by decide +kernel
theorem dX4_number_43 : decode cX4_number 43 = .ok (.iload_n 3, 1) := by decide +kernel
theorem dX4_number_44 : decode cX4_number 44 = .ok (.iconst 1, 1) := by decide +kernel
theorem dX4_number_45 : decode cX4_number 45 = .ok (.if_icmp .le 16, 3) := by decide +kernel
theorem dX4_number_48 : decode cX4_number 48 = .ok (.aload_n 0, 1) := by decide +kernel
theorem dX4_number_49 : decode cX4_number 49 = .ok (.getfield 33, 3) := by decide +kernel
theorem dX4_number_52 : decode cX4_number 52 = .ok (.iload_n 2, 1) := by decide +kernel
theorem dX4_number_53 : decode cX4_number 53 = .ok (.baload, 1) := by decide +kernel
theorem dX4_number_54 : decode cX4_number 54 = .ok (.bipush 48, 2) := by decide +kernel
theorem dX4_number_56 : decode cX4_number 56 = .ok (.if_icmp .ne 5, 3) := by decide +kernel
theorem dX4_number_59 : decode cX4_number 59 = .ok (.iconst (-1), 1) := by decide +kernel
theorem dX4_number_60 : decode cX4_number 60 = .ok (.ireturn, 1) := by decide +kernel
theorem dX4_number_61 : decode cX4_number 61 = .ok (.iconst 1, 1) := by decide +kernel
theorem dX4_number_62 : decode cX4_number 62 = .ok (.istore 4, 2) := by decide +kernel
theorem dX4_number_64 : decode cX4_number 64 = .ok (.aload_n 0, 1) := by decide +kernel
theorem dX4_number_65 : decode cX4_number 65 = .ok (.invokevirtual 89, 3) := by decide +kernel
theorem dX4_number_68 : decode cX4_number 68 = .ok (.bipush 46, 2) := by decide +kernel
theorem dX4_number_70 : decode cX4_number 70 = .ok (.if_icmp .ne 25, 3) := by decide +kernel
theorem dX4_number_73 : decode cX4_number 73 = .ok (.iconst 0, 1) := by decide +kernel
theorem dX4_number_74 : decode cX4_number 74 = .ok (.istore 4, 2) := by decide +kernel
theorem dX4_number_76 : decode cX4_number 76 = .ok (.aload_n 0, 1) := by decide +kernel
theorem dX4_number_77 : decode cX4_number 77 = .ok (.dup, 1) := by decide +kernel
theorem dX4_number_78 : decode cX4_number 78 = .ok (.getfield 47, 3) := by decide +kernel
theorem dX4_number_81 : decode cX4_number 81 = .ok (.iconst 1, 1) := by decide +kernel
theorem dX4_number_82 : decode cX4_number 82 = .ok (.iadd, 1) := by decide +kernel
theorem dX4_number_83 : decode cX4_number 83 = .ok (.putfield 47, 3) := by decide +kernel
theorem dX4_number_86 : decode cX4_number 86 = .ok (.aload_n 0, 1) := by decide +kernel
theorem dX4_number_87 : decode cX4_number 87 = .ok (.invokevirtual 127, 3) := by decide +kernel
theorem dX4_number_90 : decode cX4_number 90 = .ok (.ifCond .ne 5, 3) := by decide +kernel
theorem dX4_number_93 : decode cX4_number 93 = .ok (.iconst (-1), 1) := by decide +kernel
theorem dX4_number_94 : decode cX4_number 94 = .ok (.ireturn, 1) := by decide +kernel
theorem dX4_number_95 : decode cX4_number 95 = .ok (.aload_n 0, 1) := by decide +kernel
theorem dX4_number_96 : decode cX4_number 96 = .ok (.invokevirtual 89, 3) := by decide +kernel
theorem dX4_number_99 : decode cX4_number 99 = .ok (.bipush 101, 2) := by decide +kernel
theorem dX4_number_101 : decode cX4_number 101 = .ok (.if_icmp .eq 12, 3) := by decide +kernel
theorem dX4_number_104 : decode cX4_number 104 = .ok (.aload_n 0, 1) := by decide +kernel
theorem dX4_number_105 : decode cX4_number 105 = .ok (.invokevirtual 89, 3) := by decide +kernel
theorem dX4_number_108 : decode cX4_number 108 = .ok (.bipush 69, 2) := by decide +kernel
theorem dX4_number_110 : decode cX4_number 110 = .ok (.if_icmp .ne 53, 3) := by decide +kernel
theorem dX4_number_113 : decode cX4_number 113 = .ok (.iconst 0, 1) := by decide +kernel
theorem dX4_number_114 : decode cX4_number 114 = .ok (.istore 4, 2) := by decide +kernel
theorem dX4_number_116 : decode cX4_number 116 = .ok (.aload_n 0, 1) := by decide +kernel
theorem dX4_number_117 : decode cX4_number 117 = .ok (.dup, 1) := by decide +kernel
theorem dX4_number_118 : decode cX4_number 118 = .ok (.getfield 47, 3) := by decide +kernel
theorem dX4_number_121 : decode cX4_number 121 = .ok (.iconst 1, 1) := by decide +kernel
theorem dX4_number_122 : decode cX4_number 122 = .ok (.iadd, 1) := by decide +kernel
theorem dX4_number_123 : decode cX4_number 123 = .ok (.putfield 47, 3) := by decide +kernel
theorem dX4_number_126 : decode cX4_number 126 = .ok (.aload_n 0, 1) := by decide +kernel
theorem dX4_number_127 : decode cX4_number 127 = .ok (.invokevirtual 89, 3) := by decide +kernel
theorem dX4_number_130 : decode cX4_number 130 = .ok (.bipush 43, 2) := by decide +kernel
theorem dX4_number_132 : decode cX4_number 132 = .ok (.if_icmp .eq 12, 3) := by decide +kernel
theorem dX4_number_135 : decode cX4_number 135 = .ok (.aload_n 0, 1) := by decide +kernel
theorem dX4_number_136 : decode cX4_number 136 = .ok (.invokevirtual 89, 3) := by decide +kernel
theorem dX4_number_139 : decode cX4_number 139 = .ok (.bipush 45, 2) := by decide +kernel
theorem dX4_number_141 : decode cX4_number 141 = .ok (.if_icmp .ne 13, 3) := by decide +kernel
theorem dX4_number_144 : decode cX4_number 144 = .ok (.aload_n 0, 1) := by decide +kernel
theorem dX4_number_145 : decode cX4_number 145 = .ok (.dup, 1) := by decide +kernel
theorem dX4_number_146 : decode cX4_number 146 = .ok (.getfield 47, 3) := by decide +kernel
theorem dX4_number_149 : decode cX4_number 149 = .ok (.iconst 1, 1) := by decide +kernel
theorem dX4_number_150 : decode cX4_number 150 = .ok (.iadd, 1) := by decide +kernel
theorem dX4_number_151 : decode cX4_number 151 = .ok (.putfield 47, 3) := by decide +kernel
theorem dX4_number_154 : decode cX4_number 154 = .ok (.aload_n 0, 1) := by decide +kernel
theorem dX4_number_155 : decode cX4_number 155 = .ok (.invokevirtual 127, 3) := by decide +kernel
theorem dX4_number_158 : decode cX4_number 158 = .ok (.ifCond .ne 5, 3) := by decide +kernel
theorem dX4_number_161 : decode cX4_number 161 = .ok (.iconst (-1), 1) := by decide +kernel
theorem dX4_number_162 : decode cX4_number 162 = .ok (.ireturn, 1) := by decide +kernel
theorem dX4_number_163 : decode cX4_number 163 = .ok (.lconst 0, 1) := by decide +kernel
theorem dX4_number_164 : decode cX4_number 164 = .ok (.lstore 5, 2) := by decide +kernel
theorem dX4_number_166 : decode cX4_number 166 = .ok (.iload_n 2, 1) := by decide +kernel
theorem dX4_number_167 : decode cX4_number 167 = .ok (.istore 7, 2) := by decide +kernel
theorem dX4_number_169 : decode cX4_number 169 = .ok (.iload 7, 2) := by decide +kernel
theorem dX4_number_171 : decode cX4_number 171 = .ok (.iload_n 2, 1) := by decide +kernel
theorem dX4_number_172 : decode cX4_number 172 = .ok (.iload_n 3, 1) := by decide +kernel
theorem dX4_number_173 : decode cX4_number 173 = .ok (.iadd, 1) := by decide +kernel
theorem dX4_number_174 : decode cX4_number 174 = .ok (.if_icmp .ge 39, 3) := by decide +kernel
theorem dX4_number_177 : decode cX4_number 177 = .ok (.lload 5, 2) := by decide +kernel
theorem dX4_number_179 : decode cX4_number 179 = .ok (.ldc2_w 130, 3) := by decide +kernel
theorem dX4_number_182 : decode cX4_number 182 = .ok (.lcmp, 1) := by decide +kernel
theorem dX4_number_183 : decode cX4_number 183 = .ok (.ifCond .gt 30, 3) := by decide +kernel
theorem dX4_number_186 : decode cX4_number 186 = .ok (.lload 5, 2) := by decide +kernel
theorem dX4_number_188 : decode cX4_number 188 = .ok (.ldc2_w 132, 3) := by decide +kernel
theorem dX4_number_191 : decode cX4_number 191 = .ok (.lmul, 1) := by decide +kernel
theorem dX4_number_192 : decode cX4_number 192 = .ok (.aload_n 0, 1) := by decide +kernel
theorem dX4_number_193 : decode cX4_number 193 = .ok (.getfield 33, 3) := by decide +kernel
theorem dX4_number_196 : decode cX4_number 196 = .ok (.iload 7, 2) := by decide +kernel
theorem dX4_number_198 : decode cX4_number 198 = .ok (.baload, 1) := by decide +kernel
theorem dX4_number_199 : decode cX4_number 199 = .ok (.i2l, 1) := by decide +kernel
theorem dX4_number_200 : decode cX4_number 200 = .ok (.ladd, 1) := by decide +kernel
theorem dX4_number_201 : decode cX4_number 201 = .ok (.ldc2_w 134, 3) := by decide +kernel
theorem dX4_number_204 : decode cX4_number 204 = .ok (.lsub, 1) := by decide +kernel
theorem dX4_number_205 : decode cX4_number 205 = .ok (.lstore 5, 2) := by decide +kernel
theorem dX4_number_207 : decode cX4_number 207 = .ok (.iinc 7 1, 3) := by decide +kernel
theorem dX4_number_210 : decode cX4_number 210 = .ok (.goto (-41), 3) := by decide +kernel
theorem dX4_number_213 : decode cX4_number 213 = .ok (.iload_n 1, 1) := by decide +kernel
theorem dX4_number_214 : decode cX4_number 214 = .ok (.ifCond .eq 9, 3) := by decide +kernel
theorem dX4_number_217 : decode cX4_number 217 = .ok (.lload 5, 2) := by decide +kernel
theorem dX4_number_219 : decode cX4_number 219 = .ok (.lneg, 1) := by decide +kernel
theorem dX4_number_220 : decode cX4_number 220 = .ok (.goto 5, 3) := by decide +kernel
theorem dX4_number_223 : decode cX4_number 223 = .ok (.lload 5, 2) := by decide +kernel
theorem dX4_number_225 : decode cX4_number 225 = .ok (.lstore 5, 2) := by decide +kernel
theorem dX4_number_227 : decode cX4_number 227 = .ok (.iload 4, 2) := by decide +kernel
theorem dX4_number_229 : decode cX4_number 229 = .ok (.ifCond .eq 25, 3) := by decide +kernel
theorem dX4_number_232 : decode cX4_number 232 = .ok (.lload 5, 2) := by decide +kernel
theorem dX4_number_234 : decode cX4_number 234 = .ok (.ldc2_w 136, 3) := by decide +kernel
theorem dX4_number_237 : decode cX4_number 237 = .ok (.lcmp, 1) := by decide +kernel
theorem dX4_number_238 : decode cX4_number 238 = .ok (.ifCond .lt 16, 3) := by decide +kernel
theorem dX4_number_241 : decode cX4_number 241 = .ok (.lload 5, 2) := by decide +kernel
theorem dX4_number_243 : decode cX4_number 243 = .ok (.ldc2_w 138, 3) := by decide +kernel
theorem dX4_number_246 : decode cX4_number 246 = .ok (.lcmp, 1) := by decide +kernel
theorem dX4_number_247 : decode cX4_number 247 = .ok (.ifCond .gt 7, 3) := by decide +kernel
theorem dX4_number_250 : decode cX4_number 250 = .ok (.iconst 1, 1) := by decide +kernel
theorem dX4_number_251 : decode cX4_number 251 = .ok (.goto 4, 3) := by decide +kernel
theorem dX4_number_254 : decode cX4_number 254 = .ok (.iconst 0, 1) := by decide +kernel
theorem dX4_number_255 : decode cX4_number 255 = .ok (.istore 4, 2) := by decide +kernel
theorem dX4_number_257 : decode cX4_number 257 = .ok (.iload 4, 2) := by decide +kernel
theorem dX4_number_259 : decode cX4_number 259 = .ok (.ifCond .eq 15, 3) := by decide +kernel
theorem dX4_number_262 : decode cX4_number 262 = .ok (.aload_n 0, 1) := by decide +kernel
theorem dX4_number_263 : decode cX4_number 263 = .ok (.iconst 4, 1) := by decide +kernel
theorem dX4_number_264 : decode cX4_number 264 = .ok (.lload 5, 2) := by decide +kernel
theorem dX4_number_266 : decode cX4_number 266 = .ok (.l2i, 1) := by decide +kernel
theorem dX4_number_267 : decode cX4_number 267 = .ok (.iconst 0, 1) := by decide +kernel
theorem dX4_number_268 : decode cX4_number 268 = .ok (.invokevirtual 104, 3) := by decide +kernel
theorem dX4_number_271 : decode cX4_number 271 = .ok (.goto 10, 3) := by decide +kernel
theorem dX4_number_274 : decode cX4_number 274 = .ok (.aload_n 0, 1) := by decide +kernel
theorem dX4_number_275 : decode cX4_number 275 = .ok (.iconst 5, 1) := by decide +kernel
theorem dX4_number_276 : decode cX4_number 276 = .ok (.iconst 0, 1) := by decide +kernel
theorem dX4_number_277 : decode cX4_number 277 = .ok (.iconst 0, 1) := by decide +kernel
theorem dX4_number_278 : decode cX4_number 278 = .ok (.invokevirtual 104, 3) := by decide +kernel
theorem dX4_number_281 : decode cX4_number 281 = .ok (.ireturn, 1) := by decide +kernel
theorem dX4_digits_0 : decode cX4_digits 0 = .ok (.aload_n 0, 1) := by decide +kernel
theorem dX4_digits_1 : decode cX4_digits 1 = .ok (.getfield 47, 3) := by decide +kernel
theorem dX4_digits_4 : decode cX4_digits 4 = .ok (.istore_n 1, 1) := by decide +kernel
theorem dX4_digits_5 : decode cX4_digits 5 = .ok (.aload_n 0, 1) := by decide +kernel
theorem dX4_digits_6 : decode cX4_digits 6 = .ok (.getfield 47, 3) := by decide +kernel
theorem dX4_digits_9 : decode cX4_digits 9 = .ok (.aload_n 0, 1) := by decide +kernel
theorem dX4_digits_10 : decode cX4_digits 10 = .ok (.getfield 43, 3) := by decide +kernel
theorem dX4_digits_13 : decode cX4_digits 13 = .ok (.if_icmp .ge 26, 3) := by decide +kernel
theorem dX4_digits_16 : decode cX4_digits 16 = .ok (.aload_n 0, 1) := by decide +kernel
theorem dX4_digits_17 : decode cX4_digits 17 = .ok (.invokevirtual 89, 3) := by decide +kernel
theorem dX4_digits_20 : decode cX4_digits 20 = .ok (.invokestatic 108, 3) := by decide +kernel
theorem dX4_digits_23 : decode cX4_digits 23 = .ok (.ifCond .eq 16, 3) := by decide +kernel
theorem dX4_digits_26 : decode cX4_digits 26 = .ok (.aload_n 0, 1) := by decide +kernel
theorem dX4_digits_27 : decode cX4_digits 27 = .ok (.dup, 1) := by decide +kernel
theorem dX4_digits_28 : decode cX4_digits 28 = .ok (.getfield 47, 3) := by decide +kernel
theorem dX4_digits_31 : decode cX4_digits 31 = .ok (.iconst 1, 1) := by decide +kernel
theorem dX4_digits_32 : decode cX4_digits 32 = .ok (.iadd, 1) := by decide +kernel
theorem dX4_digits_33 : decode cX4_digits 33 = .ok (.putfield 47, 3) := by decide +kernel
theorem dX4_digits_36 : decode cX4_digits 36 = .ok (.goto (-31), 3) := by decide +kernel
theorem dX4_digits_39 : decode cX4_digits 39 = .ok (.aload_n 0, 1) := by decide +kernel
theorem dX4_digits_40 : decode cX4_digits 40 = .ok (.getfield 47, 3) := by decide +kernel
theorem dX4_digits_43 : decode cX4_digits 43 = .ok (.iload_n 1, 1) := by decide +kernel
theorem dX4_digits_44 : decode cX4_digits 44 = .ok (.isub, 1) := by decide +kernel
theorem dX4_digits_45 : decode cX4_digits 45 = .ok (.ireturn, 1) := by decide +kernel
theorem dX4_isString_0 : decode cX4_isString 0 = .ok (.aload_n 0, 1) := by decide +kernel
theorem dX4_isString_1 : decode cX4_isString 1 = .ok (.invokevirtual 89, 3) := by decide +kernel
theorem dX4_isString_4 : decode cX4_isString 4 = .ok (.bipush 34, 2) := by decide +kernel
theorem dX4_isString_6 : decode cX4_isString 6 = .ok (.if_icmp .eq 5, 3) := by decide +kernel
theorem dX4_isString_9 : decode cX4_isString 9 = .ok (.iconst 0, 1) := by decide +kernel
theorem dX4_isString_10 : decode cX4_isString 10 = .ok (.ireturn, 1) := by decide +kernel
theorem dX4_isString_11 : decode cX4_isString 11 = .ok (.aload_n 0, 1) := by decide +kernel
theorem dX4_isString_12 : decode cX4_isString 12 = .ok (.dup, 1) := by decide +kernel
theorem dX4_isString_13 : decode cX4_isString 13 = .ok (.getfield 47, 3) := by decide +kernel
theorem dX4_isString_16 : decode cX4_isString 16 = .ok (.iconst 1, 1) := by decide +kernel
theorem dX4_isString_17 : decode cX4_isString 17 = .ok (.iadd, 1) := by decide +kernel
theorem dX4_isString_18 : decode cX4_isString 18 = .ok (.putfield 47, 3) := by decide +kernel
theorem dX4_isString_21 : decode cX4_isString 21 = .ok (.iconst 0, 1) := by decide +kernel
theorem dX4_isString_22 : decode cX4_isString 22 = .ok (.istore_n 1, 1) := by decide +kernel
theorem dX4_isString_23 : decode cX4_isString 23 = .ok (.iload_n 1, 1) := by decide +kernel
theorem dX4_isString_24 : decode cX4_isString 24 = .ok (.aload_n 0, 1) := by decide +kernel
theorem dX4_isString_25 : decode cX4_isString 25 = .ok (.getfield 43, 3) := by decide +kernel
theorem dX4_isString_28 : decode cX4_isString 28 = .ok (.if_icmp .ge 116, 3) := by decide +kernel
theorem dX4_isString_31 : decode cX4_isString 31 = .ok (.aload_n 0, 1) := by decide +kernel
theorem dX4_isString_32 : decode cX4_isString 32 = .ok (.getfield 47, 3) := by decide +kernel
theorem dX4_isString_35 : decode cX4_isString 35 = .ok (.aload_n 0, 1) := by decide +kernel
theorem dX4_isString_36 : decode cX4_isString 36 = .ok (.getfield 43, 3) := by decide +kernel
theorem dX4_isString_39 : decode cX4_isString 39 = .ok (.if_icmp .ge 105, 3) := by decide +kernel
theorem dX4_isString_42 : decode cX4_isString 42 = .ok (.aload_n 0, 1) := by decide +kernel
theorem dX4_isString_43 : decode cX4_isString 43 = .ok (.getfield 33, 3) := by decide +kernel
theorem dX4_isString_46 : decode cX4_isString 46 = .ok (.aload_n 0, 1) := by decide +kernel
theorem dX4_isString_47 : decode cX4_isString 47 = .ok (.getfield 47, 3) := by decide +kernel
theorem dX4_isString_50 : decode cX4_isString 50 = .ok (.aload_n 0, 1) := by decide +kernel
theorem dX4_isString_51 : decode cX4_isString 51 = .ok (.getfield 43, 3) := by decide +kernel
theorem dX4_isString_54 : decode cX4_isString 54 = .ok (.invokestatic 140, 3) := by decide +kernel
theorem dX4_isString_57 : decode cX4_isString 57 = .ok (.istore_n 2, 1) := by decide +kernel
theorem dX4_isString_58 : decode cX4_isString 58 = .ok (.iload_n 2, 1) := by decide +kernel
theorem dX4_isString_59 : decode cX4_isString 59 = .ok (.bipush 34, 2) := by decide +kernel
theorem dX4_isString_61 : decode cX4_isString 61 = .ok (.if_icmp .ne 15, 3) := by decide +kernel
theorem dX4_isString_64 : decode cX4_isString 64 = .ok (.aload_n 0, 1) := by decide +kernel
theorem dX4_isString_65 : decode cX4_isString 65 = .ok (.dup, 1) := by decide +kernel
theorem dX4_isString_66 : decode cX4_isString 66 = .ok (.getfield 47, 3) := by decide +kernel
theorem dX4_isString_69 : decode cX4_isString 69 = .ok (.iconst 1, 1) := by decide +kernel
theorem dX4_isString_70 : decode cX4_isString 70 = .ok (.iadd, 1) := by decide +kernel
theorem dX4_isString_71 : decode cX4_isString 71 = .ok (.putfield 47, 3) := by decide +kernel
theorem dX4_isString_74 : decode cX4_isString 74 = .ok (.iconst 1, 1) := by decide +kernel
theorem dX4_isString_75 : decode cX4_isString 75 = .ok (.ireturn, 1) := by decide +kernel
theorem dX4_isString_76 : decode cX4_isString 76 = .ok (.iload_n 2, 1) := by decide +kernel
theorem dX4_isString_77 : decode cX4_isString 77 = .ok (.bipush 32, 2) := by decide +kernel
theorem dX4_isString_79 : decode cX4_isString 79 = .ok (.if_icmp .ge 5, 3) := by decide +kernel
theorem dX4_isString_82 : decode cX4_isString 82 = .ok (.iconst 0, 1) := by decide +kernel
theorem dX4_isString_83 : decode cX4_isString 83 = .ok (.ireturn, 1) := by decide +kernel
theorem dX4_isString_84 : decode cX4_isString 84 = .ok (.iload_n 2, 1) := by decide +kernel
theorem dX4_isString_85 : decode cX4_isString 85 = .ok (.bipush 92, 2) := by decide +kernel
theorem dX4_isString_87 : decode cX4_isString 87 = .ok (.if_icmp .ne 33, 3) := by decide +kernel
theorem dX4_isString_90 : decode cX4_isString 90 = .ok (.aload_n 0, 1) := by decide +kernel
theorem dX4_isString_91 : decode cX4_isString 91 = .ok (.ldc 146, 2) := by decide +kernel
theorem dX4_isString_93 : decode cX4_isString 93 = .ok (.invokevirtual 116, 3) := by decide +kernel
theorem dX4_isString_96 : decode cX4_isString 96 = .ok (.ifCond .eq 10, 3) := by decide +kernel
theorem dX4_isString_99 : decode cX4_isString 99 = .ok (.aload_n 0, 1) := by decide +kernel
theorem dX4_isString_100 : decode cX4_isString 100 = .ok (.invokevirtual 148, 3) := by decide +kernel
theorem dX4_isString_103 : decode cX4_isString 103 = .ok (.goto 7, 3) := by decide +kernel
theorem dX4_isString_106 : decode cX4_isString 106 = .ok (.aload_n 0, 1) := by decide +kernel
theorem dX4_isString_107 : decode cX4_isString 107 = .ok (.invokevirtual 151, 3) := by decide +kernel
theorem dX4_isString_110 : decode cX4_isString 110 = .ok (.istore_n 3, 1) := by decide +kernel
theorem dX4_isString_111 : decode cX4_isString 111 = .ok (.iload_n 3, 1) := by decide +kernel
theorem dX4_isString_112 : decode cX4_isString 112 = .ok (.ifCond .ne 5, 3) := by decide +kernel
theorem dX4_isString_115 : decode cX4_isString 115 = .ok (.iconst 0, 1) := by decide +kernel
theorem dX4_isString_116 : decode cX4_isString 116 = .ok (.ireturn, 1) := by decide +kernel
theorem dX4_isString_117 : decode cX4_isString 117 = .ok (.goto 21, 3) := by decide +kernel
theorem dX4_isString_120 : decode cX4_isString 120 = .ok (.aload_n 0, 1) := by decide +kernel
theorem dX4_isString_121 : decode cX4_isString 121 = .ok (.dup, 1) := by decide +kernel
theorem dX4_isString_122 : decode cX4_isString 122 = .ok (.getfield 47, 3) := by decide +kernel
theorem dX4_isString_125 : decode cX4_isString 125 = .ok (.iload_n 2, 1) := by decide +kernel
theorem dX4_isString_126 : decode cX4_isString 126 = .ok (.invokestatic 154, 3) := by decide +kernel
theorem dX4_isString_129 : decode cX4_isString 129 = .ok (.iadd, 1) := by decide +kernel
theorem dX4_isString_130 : decode cX4_isString 130 = .ok (.putfield 47, 3) := by decide +kernel
theorem dX4_isString_133 : decode cX4_isString 133 = .ok (.aload_n 0, 1) := by decide +kernel
theorem dX4_isString_134 : decode cX4_isString 134 = .ok (.iload_n 2, 1) := by decide +kernel
theorem dX4_isString_135 : decode cX4_isString 135 = .ok (.invokevirtual 157, 3) := by decide +kernel
theorem dX4_isString_138 : decode cX4_isString 138 = .ok (.iinc 1 1, 3) := by decide +kernel
theorem dX4_isString_141 : decode cX4_isString 141 = .ok (.goto (-118), 3) := by decide +kernel
theorem dX4_isString_144 : decode cX4_isString 144 = .ok (.iconst 0, 1) := by decide +kernel
theorem dX4_isString_145 : decode cX4_isString 145 = .ok (.ireturn, 1) := by decide +kernel
theorem dX4_isEscape_0 : decode cX4_isEscape 0 = .ok (.aload_n 0, 1) := by decide +kernel
theorem dX4_isEscape_1 : decode cX4_isEscape 1 = .ok (.dup, 1) := by decide +kernel
theorem dX4_isEscape_2 : decode cX4_isEscape 2 = .ok (.getfield 47, 3) := by decide +kernel
theorem dX4_isEscape_5 : decode cX4_isEscape 5 = .ok (.iconst 1, 1) := by decide +kernel
theorem dX4_isEscape_6 : decode cX4_isEscape 6 = .ok (.iadd, 1) := by decide +kernel
theorem dX4_isEscape_7 : decode cX4_isEscape 7 = .ok (.putfield 47, 3) := by decide +kernel
theorem dX4_isEscape_10 : decode cX4_isEscape 10 = .ok (.aload_n 0, 1) := by decide +kernel
theorem dX4_isEscape_11 : decode cX4_isEscape 11 = .ok (.invokevirtual 89, 3) := by decide +kernel
theorem dX4_isEscape_14 : decode cX4_isEscape 14 = .ok (.istore_n 1, 1) := by decide +kernel
theorem dX4_isEscape_15 : decode cX4_isEscape 15 = .ok (.aload_n 0, 1) := by decide +kernel
theorem dX4_isEscape_16 : decode cX4_isEscape 16 = .ok (.dup, 1) := by decide +kernel
theorem dX4_isEscape_17 : decode cX4_isEscape 17 = .ok (.getfield 47, 3) := by decide +kernel
theorem dX4_isEscape_20 : decode cX4_isEscape 20 = .ok (.iconst 1, 1) := by decide +kernel
theorem dX4_isEscape_21 : decode cX4_isEscape 21 = .ok (.iadd, 1) := by decide +kernel
theorem dX4_isEscape_22 : decode cX4_isEscape 22 = .ok (.putfield 47, 3) := by decide +kernel
theorem dX4_isEscape_25 : decode cX4_isEscape 25 = .ok (.iload_n 1, 1) := by decide +kernel
theorem dX4_isEscape_26 : decode cX4_isEscape 26 = .ok (.lookupswitch 121 #[(34, 74), (47, 74), (92, 74), (98, 81), (102, 89), (110, 97), (114, 105), (116, 113)], 74) := by decide +kernel
theorem dX4_isEscape_100 : decode cX4_isEscape 100 = .ok (.aload_n 0, 1) := by decide +kernel
theorem dX4_isEscape_101 : decode cX4_isEscape 101 = .ok (.iload_n 1, 1) := by decide +kernel
theorem dX4_isEscape_102 : decode cX4_isEscape 102 = .ok (.invokevirtual 163, 3) := by decide +kernel
theorem dX4_isEscape_105 : decode cX4_isEscape 105 = .ok (.iconst 1, 1) := by decide +kernel
theorem dX4_isEscape_106 : decode cX4_isEscape 106 = .ok (.ireturn, 1) := by decide +kernel
theorem dX4_isEscape_107 : decode cX4_isEscape 107 = .ok (.aload_n 0, 1) := by decide +kernel
theorem dX4_isEscape_108 : decode cX4_isEscape 108 = .ok (.bipush 8, 2) := by decide +kernel
theorem dX4_isEscape_110 : decode cX4_isEscape 110 = .ok (.invokevirtual 163, 3) := by decide +kernel
theorem dX4_isEscape_113 : decode cX4_isEscape 113 = .ok (.iconst 1, 1) := by decide +kernel
theorem dX4_isEscape_114 : decode cX4_isEscape 114 = .ok (.ireturn, 1) := by decide +kernel
theorem dX4_isEscape_115 : decode cX4_isEscape 115 = .ok (.aload_n 0, 1) := by decide +kernel
theorem dX4_isEscape_116 : decode cX4_isEscape 116 = .ok (.bipush 12, 2) := by decide +kernel
theorem dX4_isEscape_118 : decode cX4_isEscape 118 = .ok (.invokevirtual 163, 3) := by decide +kernel
theorem dX4_isEscape_121 : decode cX4_isEscape 121 = .ok (.iconst 1, 1) := by decide +kernel
theorem dX4_isEscape_122 : decode cX4_isEscape 122 = .ok (.ireturn, 1) := by decide +kernel
theorem dX4_isEscape_123 : decode cX4_isEscape 123 = .ok (.aload_n 0, 1) := by decide +kernel
theorem dX4_isEscape_124 : decode cX4_isEscape 124 = .ok (.bipush 10, 2) := by decide +kernel
theorem dX4_isEscape_126 : decode cX4_isEscape 126 = .ok (.invokevirtual 163, 3) := by decide +kernel
theorem dX4_isEscape_129 : decode cX4_isEscape 129 = .ok (.iconst 1, 1) := by decide +kernel
theorem dX4_isEscape_130 : decode cX4_isEscape 130 = .ok (.ireturn, 1) := by decide +kernel
theorem dX4_isEscape_131 : decode cX4_isEscape 131 = .ok (.aload_n 0, 1) := by decide +kernel
theorem dX4_isEscape_132 : decode cX4_isEscape 132 = .ok (.bipush 13, 2) := by decide +kernel
theorem dX4_isEscape_134 : decode cX4_isEscape 134 = .ok (.invokevirtual 163, 3) := by decide +kernel
theorem dX4_isEscape_137 : decode cX4_isEscape 137 = .ok (.iconst 1, 1) := by decide +kernel
theorem dX4_isEscape_138 : decode cX4_isEscape 138 = .ok (.ireturn, 1) := by decide +kernel
theorem dX4_isEscape_139 : decode cX4_isEscape 139 = .ok (.aload_n 0, 1) := by decide +kernel
theorem dX4_isEscape_140 : decode cX4_isEscape 140 = .ok (.bipush 9, 2) := by decide +kernel
theorem dX4_isEscape_142 : decode cX4_isEscape 142 = .ok (.invokevirtual 163, 3) := by decide +kernel
theorem dX4_isEscape_145 : decode cX4_isEscape 145 = .ok (.iconst 1, 1) := by decide +kernel
theorem dX4_isEscape_146 : decode cX4_isEscape 146 = .ok (.ireturn, 1) := by decide +kernel
theorem dX4_isEscape_147 : decode cX4_isEscape 147 = .ok (.iconst 0, 1) := by decide +kernel
theorem dX4_isEscape_148 : decode cX4_isEscape 148 = .ok (.ireturn, 1) := by decide +kernel
theorem dX4_isUnitEscape_0 : decode cX4_isUnitEscape 0 = .ok (.aload_n 0, 1) := by decide +kernel
theorem dX4_isUnitEscape_1 : decode cX4_isUnitEscape 1 = .ok (.invokevirtual 167, 3) := by decide +kernel
theorem dX4_isUnitEscape_4 : decode cX4_isUnitEscape 4 = .ok (.istore_n 1, 1) := by decide +kernel
theorem dX4_isUnitEscape_5 : decode cX4_isUnitEscape 5 = .ok (.iload_n 1, 1) := by decide +kernel
theorem dX4_isUnitEscape_6 : decode cX4_isUnitEscape 6 = .ok (.ifCond .lt 10, 3) := by decide +kernel
theorem dX4_isUnitEscape_9 : decode cX4_isUnitEscape 9 = .ok (.iload_n 1, 1) := by decide +kernel
theorem dX4_isUnitEscape_10 : decode cX4_isUnitEscape 10 = .ok (.invokestatic 170, 3) := by decide +kernel
theorem dX4_isUnitEscape_13 : decode cX4_isUnitEscape 13 = .ok (.ifCond .eq 5, 3) := by decide +kernel
theorem dX4_isUnitEscape_16 : decode cX4_isUnitEscape 16 = .ok (.iconst 0, 1) := by decide +kernel
theorem dX4_isUnitEscape_17 : decode cX4_isUnitEscape 17 = .ok (.ireturn, 1) := by decide +kernel
theorem dX4_isUnitEscape_18 : decode cX4_isUnitEscape 18 = .ok (.aload_n 0, 1) := by decide +kernel
theorem dX4_isUnitEscape_19 : decode cX4_isUnitEscape 19 = .ok (.iload_n 1, 1) := by decide +kernel
theorem dX4_isUnitEscape_20 : decode cX4_isUnitEscape 20 = .ok (.invokevirtual 163, 3) := by decide +kernel
theorem dX4_isUnitEscape_23 : decode cX4_isUnitEscape 23 = .ok (.iload_n 1, 1) := by decide +kernel
theorem dX4_isUnitEscape_24 : decode cX4_isUnitEscape 24 = .ok (.invokestatic 173, 3) := by decide +kernel
theorem dX4_isUnitEscape_27 : decode cX4_isUnitEscape 27 = .ok (.ifCond .ne 5, 3) := by decide +kernel
theorem dX4_isUnitEscape_30 : decode cX4_isUnitEscape 30 = .ok (.iconst 1, 1) := by decide +kernel
theorem dX4_isUnitEscape_31 : decode cX4_isUnitEscape 31 = .ok (.ireturn, 1) := by decide +kernel
theorem dX4_isUnitEscape_32 : decode cX4_isUnitEscape 32 = .ok (.aload_n 0, 1) := by decide +kernel
theorem dX4_isUnitEscape_33 : decode cX4_isUnitEscape 33 = .ok (.ldc 146, 2) := by decide +kernel
theorem dX4_isUnitEscape_35 : decode cX4_isUnitEscape 35 = .ok (.invokevirtual 116, 3) := by decide +kernel
theorem dX4_isUnitEscape_38 : decode cX4_isUnitEscape 38 = .ok (.ifCond .ne 5, 3) := by decide +kernel
theorem dX4_isUnitEscape_41 : decode cX4_isUnitEscape 41 = .ok (.iconst 0, 1) := by decide +kernel
theorem dX4_isUnitEscape_42 : decode cX4_isUnitEscape 42 = .ok (.ireturn, 1) := by decide +kernel
theorem dX4_isUnitEscape_43 : decode cX4_isUnitEscape 43 = .ok (.aload_n 0, 1) := by decide +kernel
theorem dX4_isUnitEscape_44 : decode cX4_isUnitEscape 44 = .ok (.invokevirtual 167, 3) := by decide +kernel
theorem dX4_isUnitEscape_47 : decode cX4_isUnitEscape 47 = .ok (.istore_n 2, 1) := by decide +kernel
theorem dX4_isUnitEscape_48 : decode cX4_isUnitEscape 48 = .ok (.aload_n 0, 1) := by decide +kernel
theorem dX4_isUnitEscape_49 : decode cX4_isUnitEscape 49 = .ok (.iload_n 2, 1) := by decide +kernel
theorem dX4_isUnitEscape_50 : decode cX4_isUnitEscape 50 = .ok (.invokevirtual 163, 3) := by decide +kernel
theorem dX4_isUnitEscape_53 : decode cX4_isUnitEscape 53 = .ok (.iload_n 2, 1) := by decide +kernel
theorem dX4_isUnitEscape_54 : decode cX4_isUnitEscape 54 = .ok (.invokestatic 170, 3) := by decide +kernel
theorem dX4_isUnitEscape_57 : decode cX4_isUnitEscape 57 = .ok (.ireturn, 1) := by decide +kernel
theorem dX4_fourDigits_0 : decode cX4_fourDigits 0 = .ok (.iconst 0, 1) := by decide +kernel
theorem dX4_fourDigits_1 : decode cX4_fourDigits 1 = .ok (.istore_n 1, 1) := by decide +kernel
theorem dX4_fourDigits_2 : decode cX4_fourDigits 2 = .ok (.iconst 0, 1) := by decide +kernel
theorem dX4_fourDigits_3 : decode cX4_fourDigits 3 = .ok (.istore_n 2, 1) := by decide +kernel
theorem dX4_fourDigits_4 : decode cX4_fourDigits 4 = .ok (.iload_n 2, 1) := by decide +kernel
theorem dX4_fourDigits_5 : decode cX4_fourDigits 5 = .ok (.iconst 4, 1) := by decide +kernel
theorem dX4_fourDigits_6 : decode cX4_fourDigits 6 = .ok (.if_icmp .ge 131, 3) := by decide +kernel
theorem dX4_fourDigits_9 : decode cX4_fourDigits 9 = .ok (.aload_n 0, 1) := by decide +kernel
theorem dX4_fourDigits_10 : decode cX4_fourDigits 10 = .ok (.getfield 47, 3) := by decide +kernel
theorem dX4_fourDigits_13 : decode cX4_fourDigits 13 = .ok (.aload_n 0, 1) := by decide +kernel
theorem dX4_fourDigits_14 : decode cX4_fourDigits 14 = .ok (.getfield 43, 3) := by decide +kernel
theorem dX4_fourDigits_17 : decode cX4_fourDigits 17 = .ok (.if_icmp .ge 15, 3) := by decide +kernel
theorem dX4_fourDigits_20 : decode cX4_fourDigits 20 = .ok (.aload_n 0, 1) := by decide +kernel
theorem dX4_fourDigits_21 : decode cX4_fourDigits 21 = .ok (.getfield 33, 3) := by decide +kernel
theorem dX4_fourDigits_24 : decode cX4_fourDigits 24 = .ok (.aload_n 0, 1) := by decide +kernel
theorem dX4_fourDigits_25 : decode cX4_fourDigits 25 = .ok (.getfield 47, 3) := by decide +kernel
theorem dX4_fourDigits_28 : decode cX4_fourDigits 28 = .ok (.baload, 1) := by decide +kernel
theorem dX4_fourDigits_29 : decode cX4_fourDigits 29 = .ok (.goto 4, 3) := by decide +kernel
theorem dX4_fourDigits_32 : decode cX4_fourDigits 32 = .ok (.iconst (-1), 1) := by decide +kernel
theorem dX4_fourDigits_33 : decode cX4_fourDigits 33 = .ok (.istore_n 3, 1) := by decide +kernel
theorem dX4_fourDigits_34 : decode cX4_fourDigits 34 = .ok (.iload_n 3, 1) := by decide +kernel
theorem dX4_fourDigits_35 : decode cX4_fourDigits 35 = .ok (.bipush 65, 2) := by decide +kernel
theorem dX4_fourDigits_37 : decode cX4_fourDigits 37 = .ok (.if_icmp .lt 16, 3) := by decide +kernel
theorem dX4_fourDigits_40 : decode cX4_fourDigits 40 = .ok (.iload_n 3, 1) := by decide +kernel
theorem dX4_fourDigits_41 : decode cX4_fourDigits 41 = .ok (.bipush 70, 2) := by decide +kernel
theorem dX4_fourDigits_43 : decode cX4_fourDigits 43 = .ok (.if_icmp .gt 10, 3) := by decide +kernel
theorem dX4_fourDigits_46 : decode cX4_fourDigits 46 = .ok (.iload_n 3, 1) := by decide +kernel
theorem dX4_fourDigits_47 : decode cX4_fourDigits 47 = .ok (.bipush 32, 2) := by decide +kernel
theorem dX4_fourDigits_49 : decode cX4_fourDigits 49 = .ok (.iadd, 1) := by decide +kernel
theorem dX4_fourDigits_50 : decode cX4_fourDigits 50 = .ok (.goto 4, 3) := by decide +kernel
theorem dX4_fourDigits_53 : decode cX4_fourDigits 53 = .ok (.iload_n 3, 1) := by decide +kernel
theorem dX4_fourDigits_54 : decode cX4_fourDigits 54 = .ok (.istore 4, 2) := by decide +kernel
theorem dX4_fourDigits_56 : decode cX4_fourDigits 56 = .ok (.iload 4, 2) := by decide +kernel
theorem dX4_fourDigits_58 : decode cX4_fourDigits 58 = .ok (.bipush 97, 2) := by decide +kernel
theorem dX4_fourDigits_60 : decode cX4_fourDigits 60 = .ok (.if_icmp .lt 14, 3) := by decide +kernel
theorem dX4_fourDigits_63 : decode cX4_fourDigits 63 = .ok (.iload 4, 2) := by decide +kernel
theorem dX4_fourDigits_65 : decode cX4_fourDigits 65 = .ok (.bipush 102, 2) := by decide +kernel
theorem dX4_fourDigits_67 : decode cX4_fourDigits 67 = .ok (.if_icmp .gt 7, 3) := by decide +kernel
theorem dX4_fourDigits_70 : decode cX4_fourDigits 70 = .ok (.iconst 1, 1) := by decide +kernel
theorem dX4_fourDigits_71 : decode cX4_fourDigits 71 = .ok (.goto 4, 3) := by decide +kernel
theorem dX4_fourDigits_74 : decode cX4_fourDigits 74 = .ok (.iconst 0, 1) := by decide +kernel
theorem dX4_fourDigits_75 : decode cX4_fourDigits 75 = .ok (.istore 5, 2) := by decide +kernel
theorem dX4_fourDigits_77 : decode cX4_fourDigits 77 = .ok (.iload 5, 2) := by decide +kernel
theorem dX4_fourDigits_79 : decode cX4_fourDigits 79 = .ok (.ifCond .ne 17, 3) := by decide +kernel
theorem dX4_fourDigits_82 : decode cX4_fourDigits 82 = .ok (.iload_n 3, 1) := by decide +kernel
theorem dX4_fourDigits_83 : decode cX4_fourDigits 83 = .ok (.bipush 48, 2) := by decide +kernel
theorem dX4_fourDigits_85 : decode cX4_fourDigits 85 = .ok (.if_icmp .lt 9, 3) := by decide +kernel
theorem dX4_fourDigits_88 : decode cX4_fourDigits 88 = .ok (.iload_n 3, 1) := by decide +kernel
theorem dX4_fourDigits_89 : decode cX4_fourDigits 89 = .ok (.bipush 57, 2) := by decide +kernel
theorem dX4_fourDigits_91 : decode cX4_fourDigits 91 = .ok (.if_icmp .le 5, 3) := by decide +kernel
theorem dX4_fourDigits_94 : decode cX4_fourDigits 94 = .ok (.iconst (-1), 1) := by decide +kernel
theorem dX4_fourDigits_95 : decode cX4_fourDigits 95 = .ok (.ireturn, 1) := by decide +kernel
theorem dX4_fourDigits_96 : decode cX4_fourDigits 96 = .ok (.iload_n 1, 1) := by decide +kernel
theorem dX4_fourDigits_97 : decode cX4_fourDigits 97 = .ok (.iconst 4, 1) := by decide +kernel
theorem dX4_fourDigits_98 : decode cX4_fourDigits 98 = .ok (.ishl, 1) := by decide +kernel
theorem dX4_fourDigits_99 : decode cX4_fourDigits 99 = .ok (.iload 5, 2) := by decide +kernel
theorem dX4_fourDigits_101 : decode cX4_fourDigits 101 = .ok (.ifCond .eq 14, 3) := by decide +kernel
theorem dX4_fourDigits_104 : decode cX4_fourDigits 104 = .ok (.iload 4, 2) := by decide +kernel
theorem dX4_fourDigits_106 : decode cX4_fourDigits 106 = .ok (.bipush 97, 2) := by decide +kernel
theorem dX4_fourDigits_108 : decode cX4_fourDigits 108 = .ok (.isub, 1) := by decide +kernel
theorem dX4_fourDigits_109 : decode cX4_fourDigits 109 = .ok (.bipush 10, 2) := by decide +kernel
theorem dX4_fourDigits_111 : decode cX4_fourDigits 111 = .ok (.iadd, 1) := by decide +kernel
theorem dX4_fourDigits_112 : decode cX4_fourDigits 112 = .ok (.goto 7, 3) := by decide +kernel
theorem dX4_fourDigits_115 : decode cX4_fourDigits 115 = .ok (.iload_n 3, 1) := by decide +kernel
theorem dX4_fourDigits_116 : decode cX4_fourDigits 116 = .ok (.bipush 48, 2) := by decide +kernel
theorem dX4_fourDigits_118 : decode cX4_fourDigits 118 = .ok (.isub, 1) := by decide +kernel
theorem dX4_fourDigits_119 : decode cX4_fourDigits 119 = .ok (.ior, 1) := by decide +kernel
theorem dX4_fourDigits_120 : decode cX4_fourDigits 120 = .ok (.istore_n 1, 1) := by decide +kernel
theorem dX4_fourDigits_121 : decode cX4_fourDigits 121 = .ok (.aload_n 0, 1) := by decide +kernel
theorem dX4_fourDigits_122 : decode cX4_fourDigits 122 = .ok (.dup, 1) := by decide +kernel
theorem dX4_fourDigits_123 : decode cX4_fourDigits 123 = .ok (.getfield 47, 3) := by decide +kernel
theorem dX4_fourDigits_126 : decode cX4_fourDigits 126 = .ok (.iconst 1, 1) := by decide +kernel
theorem dX4_fourDigits_127 : decode cX4_fourDigits 127 = .ok (.iadd, 1) := by decide +kernel
theorem dX4_fourDigits_128 : decode cX4_fourDigits 128 = .ok (.putfield 47, 3) := by decide +kernel
theorem dX4_fourDigits_131 : decode cX4_fourDigits 131 = .ok (.iinc 2 1, 3) := by decide +kernel
theorem dX4_fourDigits_134 : decode cX4_fourDigits 134 = .ok (.goto (-130), 3) := by decide +kernel
theorem dX4_fourDigits_137 : decode cX4_fourDigits 137 = .ok (.iload_n 1, 1) := by decide +kernel
theorem dX4_fourDigits_138 : decode cX4_fourDigits 138 = .ok (.ireturn, 1) := by decide +kernel
def EX4_isWord : List (Nat × Nat) := [(6, 11)]
def EX4_digits : List (Nat × Nat) := [(6, 11)]
def EX4_isColon : List (Nat × Nat) := [(6, 11)]
def EX4_fourDigits : List (Nat × Nat) := [(6, 11)]
def EX4_isEscape : List (Nat × Nat) := [(6, 8), (6, 11), (146, 0)]
def EX4_isUnitEscape : List (Nat × Nat) := [(6, 8), (6, 11), (146, 0)]
def EX4_isString : List (Nat × Nat) := [(6, 8), (6, 11), (146, 0)]
def EX4_number : List (Nat × Nat) := [(6, 7), (6, 11), (140, 0), (141, 0), (142, 0), (143, 0), (144, 0), (145, 0)]
set_option maxHeartbeats 4000000 in
set_option maxRecDepth 20000 in
theorem uX4_isWord (l : Launch) (dC : Nat → ClassId) (dI : Nat → Nat → Nat) (ca : Nat → ClassId) (base : Nat) (B : jF) (hB : jBok B) (hAp : jAp (dC, dI)) (hB6 : ∀ n G a H, B 6 n G a H ↔ jOb (dC, dI) 6 12 (F6 n G) a H) (hB100 : ∀ n G a H, B 100 n G a H ↔ jAr (dC, dI) (ca 0) (fun j z => True) n a H) (G0 : jT) (H0 : Heap) (r0 : Nat) (r1 : Nat) (n1 : Nat) (rb : Nat) (n_rb : Nat) (pe : Int32) (pt : Int32) : Met l yX4_isWord (jw yX4_isWord cX4_isWord 3 (some .boolean)) ({ frames := 4, cells := 0, slots := 0, locals := 141 }) (va_Pc [.ref r0, .ref r1] (fun U => U.heap = H0 ∧ jX B base G0 [] H0 ∧ jG dC dI ca base U ∧ jStr base r1 n1 U H0 ∧ G0 r0 = some (6, 0) ∧ G0 rb = some (100, n_rb) ∧ jP (dC, dI) G0 H0 [(r0, 6, 9, .ref rb), (r0, 6, 10, .int pe), (r0, 6, 11, .int pt)] ∧ 0 ≤ pe.toInt ∧ pe.toInt ≤ n_rb ∧ n_rb ≤ 3000 ∧ 0 ≤ pt.toInt ∧ pt.toInt ≤ 19000 ∧ pt.toInt ≤ pe.toInt ∧ 1 ≤ n1 ∧ n1 ≤ 1000)) (va_Qi (S := Int32) (fun r u => (r = 0 ∨ r = 1) ∧ (pt.toInt + r.toInt ≤ u.toInt ∧ u.toInt ≤ pt.toInt + 1000 * r.toInt ∧ u.toInt ≤ pe.toInt)) (fun u t => jRt (dC, dI) B base G0 EX4_isWord H0 [(r0, 6, 11, .int u)] t.heap) (jA base)) 0 0 (jA base) := by
  refine Met.ofW (cc := cX4_isWord) (maxL := 3) (ret := (some .boolean)) (by decide) rfl ?_
  intro p e s m args below meth c s₁ Bd hml hv
  obtain ⟨rfl, hH0, hX, hG, hstr_r1, hg_r0, hg_rb, hP0, hp0, hp1, hp2, hp3, hp4, hp5, hp6, hp7⟩ := hv
  have hK := hG.1
  have hx := Bd.exec
  have hb := Bd.bytes
  have hr := Bd.returns
  have hts := atoms_spec (ws := (jw yX4_isWord cX4_isWord 3 (some .boolean))) Bd.pre
  have htw : ∀ w ∈ jWl, w.before _ s = true := fun w h => hts w (List.mem_cons_of_mem _ h)
  have hown : s.vm.findClass RX4 = some m.cls := findClass_of_methodNamed Bd.named
  have hlocks := Bd.notSynchronized
  obtain ⟨Q, hQ⟩ : ∃ Q, Q = MQ below (va_Qi (S := Int32) (fun r u => (r = 0 ∨ r = 1) ∧ (pt.toInt + r.toInt ≤ u.toInt ∧ u.toInt ≤ pt.toInt + 1000 * r.toInt ∧ u.toInt ≤ pe.toInt)) (fun u t => jRt (dC, dI) B base G0 EX4_isWord H0 [(r0, 6, 11, .int u)] t.heap) (jA base)) ([.ref r0, .ref r1] : List Value).toArray s 0 0 (jA base) := ⟨_, rfl⟩
  rw [← hQ]
  have hl := lv_entry ([.ref r0, .ref r1]) (n := 3) (Nat.le_of_ble_eq_true rfl)
  rw [lg_entry_eq]
  generalize (lg_sl ([.ref r0, .ref r1]) ++ List.replicate (3 - (lg_sl ([.ref r0, .ref r1])).length) Slot.unset).toArray = ls at hl ⊢
  have hl : lv_has ls 3 [(0, .ref r0), (1, .ref r1)] := hl
  generalize hR : (headSpec (jw yX4_isWord cX4_isWord 3 (some .boolean)) ({ frames := 4, cells := 0, slots := 0, locals := 141 })).room = R
  subst hH0
  have hh : jSt (dC, dI) B base G0 G0 EX4_isWord s.heap 0 0 [(r0, 6, 9, .ref rb), (r0, 6, 10, .int pe), (r0, 6, 11, .int pt)] [] [] s.heap [] := jSt.start hX hP0 jMc.nil jIs.nil
  clear hX hP0
  have hk0 : (0 : Int32).toInt = 0 := by decide
  have hk1 : (1 : Int32).toInt = 1 := by decide
  have hly_6_9 := htw (u_lay RX4 TX4 9) (jWc_wsX40 _ (u_in_lay (by decide)))
  have hly_6_10 := htw (u_lay RX4 TX4 10) (jWc_wsX40 _ (u_in_lay (by decide)))
  have hly_6_11 := htw (u_lay RX4 TX4 11) (jWc_wsX40 _ (u_in_lay (by decide)))
  have hlk_47 := (htw (.fieldLink RX4 47 "ProofServer$Json" "at" "I") (jWr_19 _ (List.mem_of_getElem? (i := 12) rfl)))
  have hlk_43 := (htw (.fieldLink RX4 43 "ProofServer$Json" "end" "I") (jWr_19 _ (List.mem_of_getElem? (i := 11) rfl)))
  have hlk_33 := (htw (.fieldLink RX4 33 "ProofServer$Json" "bytes" "[B") (jWr_4 _ (List.mem_of_getElem? (i := 4) rfl)))
  refine lv_iconst (v := 0) hx hb dX4_isWord_0 (by decide) ?_
  refine lv_istore_n (lv' := [(2, .int 0), (0, .ref r0), (1, .ref r1)]) hx hb dX4_isWord_1 rfl hl (by decide) rfl (fun ls hl => ?_)
  have L2 : ∀ (N : Nat) (v2_1 : Int32) (H_1 : Heap) (locs_1 : List Loc), jSt (dC, dI) B base G0 G0 EX4_isWord s.heap 0 0 [(r0, 6, 9, .ref rb), (r0, 6, 10, .int pe), (r0, 6, 11, .int pt)] [] [] H_1 locs_1 → (0 ≤ v2_1.toInt ∧ v2_1.toInt ≤ n1 ∧ pt.toInt + v2_1.toInt ≤ pe.toInt) → (n1 - v2_1.toInt : Int) < N → ∀ ls : Array Slot, lv_has ls 3 [(0, .ref r0), (1, .ref r1), (2, .int v2_1)] → W p l e R s m ([.ref r0, .ref r1] : List Value).toArray below meth c H_1 locs_1 0 0 Q (F0 m 2 ls []) := by
    intro N
    induction N with
    | zero => intro v2_1 H_1 locs_1 hh_1  hi_1 hm; exact absurd hm (by omega)
    | succ N L2 =>
      intro v2_1 H_1 locs_1 hh_1  hi_1 hm_1 ls hl
      obtain ⟨hi_1_0, hi_1_1, hi_1_2⟩ := hi_1
      refine lv_iload_n hx hb dX4_isWord_2 rfl (lv_at hl 2 rfl) ?_
      refine lv_aload_n hx hb dX4_isWord_3 rfl (lv_at hl 1 rfl) ?_
      refine vp_callSi (W.runV (As := []) (rest := [.int v2_1]) ⟨hx, hb, hml, hown, hts⟩ (wJ0_length_8abf5 l dC dI ca base H_1 r1 n1) (cwV 0 hts (jgV (jWr_20 _ (List.mem_of_getElem? (i := 23) rfl)) (jWr_5 _ (List.mem_of_getElem? (i := 13) rfl)) (jWr_5 _ (List.mem_of_getElem? (i := 14) rfl)) (jWr_5 _ (List.mem_of_getElem? (i := 15) rfl)) (jWr_5 _ (List.mem_of_getElem? (i := 16) rfl))) rfl rfl rfl (by decide +kernel) ⟨by rw [← hR]; exact Nat.le_of_ble_eq_true rfl, by rw [← hR]; exact Nat.le_of_ble_eq_true rfl⟩) ⟨fun a U g mk q => by obtain ⟨q0, q1, q2, qK, q9⟩ := q; exact ⟨q0, q1, (q2.moved (Vm.Alike.refl U.vm)), jG.calling g mk a qK, q9⟩, jStr_recv hstr_r1 hh_1.1, fun U hU hW => ⟨rfl, hU, (hstr_r1.moved hW.alike).kept hh_1.1.2.1, hG.step hW hU hh_1.1, by omega⟩⟩ rfl rfl hl.1 rfl (lv_room (Nat.le_of_ble_eq_true rfl)) dX4_isWord_4 ⟨Nat.zero_le _, Nat.zero_le _⟩) (fun r_2 hr_2 => ?_)
      refine lv_icmp_ge (tgt := 50) hx hb dX4_isWord_7 (by decide) (fun c_3 => ?_) (fun c_3 => ?_)
      · skip
        have c_3' : v2_1.toInt ≥ r_2.toInt := jb_ge (rfl) (rfl) c_3
        refine lv_aload_n hx hb dX4_isWord_50 rfl (lv_at hl 0 rfl) ?_
        refine lv_dup hx hb dX4_isWord_51 rfl ?_
        refine j7_read hx hb hown hK (C := RX4) (T := TX4) (N := 12) rfl hly_6_11 hlk_47 (hh_1.at 2 rfl) dX4_isWord_52 ?_
        refine lv_aload_n hx hb dX4_isWord_55 rfl (lv_at hl 1 rfl) ?_
        refine vp_callSi (W.runV (As := []) (rest := [.int pt, .ref r0]) ⟨hx, hb, hml, hown, hts⟩ (wJ0_length_8abf5 l dC dI ca base H_1 r1 n1) (cwV 0 hts (jgV (jWr_20 _ (List.mem_of_getElem? (i := 23) rfl)) (jWr_5 _ (List.mem_of_getElem? (i := 13) rfl)) (jWr_5 _ (List.mem_of_getElem? (i := 14) rfl)) (jWr_5 _ (List.mem_of_getElem? (i := 15) rfl)) (jWr_5 _ (List.mem_of_getElem? (i := 16) rfl))) rfl rfl rfl (by decide +kernel) ⟨by rw [← hR]; exact Nat.le_of_ble_eq_true rfl, by rw [← hR]; exact Nat.le_of_ble_eq_true rfl⟩) ⟨fun a U g mk q => by obtain ⟨q0, q1, q2, qK, q9⟩ := q; exact ⟨q0, q1, (q2.moved (Vm.Alike.refl U.vm)), jG.calling g mk a qK, q9⟩, jStr_recv hstr_r1 hh_1.1, fun U hU hW => ⟨rfl, hU, (hstr_r1.moved hW.alike).kept hh_1.1.2.1, hG.step hW hU hh_1.1, by omega⟩⟩ rfl rfl hl.1 rfl (lv_room (Nat.le_of_ble_eq_true rfl)) dX4_isWord_56 ⟨Nat.zero_le _, Nat.zero_le _⟩) (fun r_4 hr_4 => ?_)
        refine lv_iadd hx hb dX4_isWord_59 ?_
        refine lv_topi (fun z_5 ez_5 => ?_)
        have hz_5 : z_5.toInt = pt.toInt + r_4.toInt := by rw [ez_5]; exact jb_iadd2 (rfl) (rfl) (by omega)
        refine j7_put hx hb hown hK hh_1 hB hAp hB6 (C := RX4) (T := TX4) (N := 12) rfl (by decide) hg_r0 (i := 11) (by decide) hly_6_11 rfl hlk_47 rfl (ty := .int) (v := .int z_5) (by decide +kernel) rfl rfl (⟨_, rfl, by omega, by omega⟩) rfl (L1 := [(r0, 6, 9, .ref rb), (r0, 6, 10, .int pe)]) [0, 1] rfl rfl rfl dX4_isWord_60 (fun H_6 locs_6 hh_6 => ?_)
        clear hh_1
        refine lv_iconst (v := 1) hx hb dX4_isWord_63 (by decide) ?_
        rw [hQ]
        exact W.zret (v := 1) hx hb hr (jb_nz (Or.inr rfl)) (fun t ht hW => ⟨⟨1, z_5, rfl, ⟨(Or.inr rfl), by first | omega | (refine ⟨?_, ?_, ?_⟩ <;> (first | omega | rfl | assumption | decide | exact Or.inl rfl | exact Or.inr rfl | (simp only; omega)))⟩, hh_6.rt (M1 := [(r0, 6, 11, .int z_5)]) [0] rfl ht⟩, by rw [ht]; try exact hh_6.1.1, fun q h9 hq => by rw [ht]; try exact hh_6.1.2.1 q h9 hq⟩) hh_6.1.2.2 dX4_isWord_64
      · skip
        have c_3' : v2_1.toInt < r_2.toInt := jb_ge_n (rfl) (rfl) c_3
        refine lv_aload_n hx hb dX4_isWord_10 rfl (lv_at hl 0 rfl) ?_
        refine j7_read hx hb hown hK (C := RX4) (T := TX4) (N := 12) rfl hly_6_11 hlk_47 (hh_1.at 2 rfl) dX4_isWord_11 ?_
        refine lv_iload_n hx hb dX4_isWord_14 rfl (lv_at hl 2 rfl) ?_
        refine lv_iadd hx hb dX4_isWord_15 ?_
        refine lv_topi (fun z_7 ez_7 => ?_)
        have hz_7 : z_7.toInt = pt.toInt + v2_1.toInt := by rw [ez_7]; exact jb_iadd2 (rfl) (rfl) (by omega)
        refine lv_aload_n hx hb dX4_isWord_16 rfl (lv_at hl 0 rfl) ?_
        refine j7_read hx hb hown hK (C := RX4) (T := TX4) (N := 12) rfl hly_6_10 hlk_43 (hh_1.at 1 rfl) dX4_isWord_17 ?_
        refine lv_icmp_ge (tgt := 42) hx hb dX4_isWord_20 (by decide) (fun c_8 => ?_) (fun c_8 => ?_)
        · skip
          have c_8' : z_7.toInt ≥ pe.toInt := jb_ge (rfl) (rfl) c_8
          refine lv_iconst (v := 0) hx hb dX4_isWord_42 (by decide) ?_
          rw [hQ]
          exact W.zret (v := 0) hx hb hr (jb_nz (Or.inl rfl)) (fun t ht hW => ⟨⟨0, pt, rfl, ⟨(Or.inl rfl), by first | omega | (refine ⟨?_, ?_, ?_⟩ <;> (first | omega | rfl | assumption | decide | exact Or.inl rfl | exact Or.inr rfl | (simp only; omega)))⟩, hh_1.rt (M1 := [(r0, 6, 11, .int pt)]) [2] rfl ht⟩, by rw [ht]; try exact hh_1.1.1, fun q h9 hq => by rw [ht]; try exact hh_1.1.2.1 q h9 hq⟩) hh_1.1.2.2 dX4_isWord_43
        · skip
          have c_8' : z_7.toInt < pe.toInt := jb_ge_n (rfl) (rfl) c_8
          refine lv_aload_n hx hb dX4_isWord_23 rfl (lv_at hl 0 rfl) ?_
          refine j7_read hx hb hown hK (C := RX4) (T := TX4) (N := 12) rfl hly_6_9 hlk_33 (hh_1.at 0 rfl) dX4_isWord_24 ?_
          refine lv_aload_n hx hb dX4_isWord_27 rfl (lv_at hl 0 rfl) ?_
          refine j7_read hx hb hown hK (C := RX4) (T := TX4) (N := 12) rfl hly_6_11 hlk_47 (hh_1.at 2 rfl) dX4_isWord_28 ?_
          refine lv_iload_n hx hb dX4_isWord_31 rfl (lv_at hl 2 rfl) ?_
          refine lv_iadd hx hb dX4_isWord_32 ?_
          refine lv_topi (fun z_9 ez_9 => ?_)
          have hz_9 : z_9.toInt = pt.toInt + v2_1.toInt := by rw [ez_9]; exact jb_iadd2 (rfl) (rfl) (by omega)
          refine j7_bald hx hb hK hh_1 hB100 0 rfl (by decide) hg_rb (x := z_9.toInt) (rfl) (by omega) dX4_isWord_33 (fun z_10 (hz_10 : True) => ?_)
          refine lv_aload_n hx hb dX4_isWord_34 rfl (lv_at hl 1 rfl) ?_
          refine lv_iload_n hx hb dX4_isWord_35 rfl (lv_at hl 2 rfl) ?_
          refine vp_callSi (W.runV (As := [.int v2_1]) (rest := [.int z_10]) ⟨hx, hb, hml, hown, hts⟩ (wJ0_charAt_5068e l dC dI ca base H_1 r1 n1 v2_1) (cwV 1 hts (jgV (jWr_21 _ (List.mem_of_getElem? (i := 0) rfl)) (jWr_6 _ (List.mem_of_getElem? (i := 1) rfl)) (jWr_6 _ (List.mem_of_getElem? (i := 2) rfl)) (jWr_5 _ (List.mem_of_getElem? (i := 15) rfl)) (jWr_6 _ (List.mem_of_getElem? (i := 3) rfl))) rfl rfl rfl (by decide +kernel) ⟨by rw [← hR]; exact Nat.le_of_ble_eq_true rfl, by rw [← hR]; exact Nat.le_of_ble_eq_true rfl⟩) ⟨fun a U g mk q => by obtain ⟨q0, q1, q2, qK, q9⟩ := q; exact ⟨q0, q1, (q2.moved (Vm.Alike.refl U.vm)), jG.calling g mk a qK, q9⟩, jStr_recv hstr_r1 hh_1.1, fun U hU hW => ⟨rfl, hU, (hstr_r1.moved hW.alike).kept hh_1.1.2.1, hG.step hW hU hh_1.1, ⟨by omega, by omega, by omega⟩⟩⟩ rfl rfl hl.1 rfl (lv_room (Nat.le_of_ble_eq_true rfl)) dX4_isWord_36 ⟨Nat.zero_le _, Nat.zero_le _⟩) (fun r_11 hr_11 => ?_)
          refine lv_icmp_eq (tgt := 44) hx hb dX4_isWord_39 (by decide) (fun c_12 => ?_) (fun c_12 => ?_)
          · skip
            have c_12' : z_10.toInt = r_11.toInt := jb_eq (rfl) (rfl) c_12
            obtain ⟨z_13, ez_13⟩ : ∃ y : Int32, y = v2_1 + 1 := ⟨_, rfl⟩
            refine lv_iinc (v := z_13) (lv' := [(2, .int z_13), (0, .ref r0), (1, .ref r1)]) hx hb dX4_isWord_44 hl (k := 2) rfl (by rw [ez_13]; rfl) (by decide) rfl (fun ls hl => ?_)
            have hz_13 : z_13.toInt = v2_1.toInt + 1 := by rw [ez_13]; exact jb_iadd2 (rfl) (by decide) (by omega)
            refine lv_goto (tgt := 2) hx hb dX4_isWord_47 (by decide) ?_
            exact L2 z_13 _ _ hh_1 (by first | omega | (refine ⟨?_, ?_, ?_⟩ <;> (first | omega | rfl | assumption | decide | exact Or.inl rfl | exact Or.inr rfl | (simp only; omega)))) (by omega) _ (lv_sub hl [1, 2, 0] rfl)
          · skip
            have c_12' : z_10.toInt ≠ r_11.toInt := jb_eq_n (rfl) (rfl) c_12
            refine lv_iconst (v := 0) hx hb dX4_isWord_42 (by decide) ?_
            rw [hQ]
            exact W.zret (v := 0) hx hb hr (jb_nz (Or.inl rfl)) (fun t ht hW => ⟨⟨0, pt, rfl, ⟨(Or.inl rfl), by first | omega | (refine ⟨?_, ?_, ?_⟩ <;> (first | omega | rfl | assumption | decide | exact Or.inl rfl | exact Or.inr rfl | (simp only; omega)))⟩, hh_1.rt (M1 := [(r0, 6, 11, .int pt)]) [2] rfl ht⟩, by rw [ht]; try exact hh_1.1.1, fun q h9 hq => by rw [ht]; try exact hh_1.1.2.1 q h9 hq⟩) hh_1.1.2.2 dX4_isWord_43
  exact L2 (n1 - (0 : Int32).toInt : Int).toNat.succ 0 _ _ hh (by first | omega | (refine ⟨?_, ?_, ?_⟩ <;> (first | omega | rfl | assumption | decide | exact Or.inl rfl | exact Or.inr rfl | (simp only; omega)))) (by omega) _ (lv_sub hl [1, 2, 0] rfl)
set_option maxHeartbeats 4000000 in
set_option maxRecDepth 20000 in
theorem uX4_digits (l : Launch) (dC : Nat → ClassId) (dI : Nat → Nat → Nat) (ca : Nat → ClassId) (base : Nat) (B : jF) (hB : jBok B) (hAp : jAp (dC, dI)) (hB6 : ∀ n G a H, B 6 n G a H ↔ jOb (dC, dI) 6 12 (F6 n G) a H) (hB100 : ∀ n G a H, B 100 n G a H ↔ jAr (dC, dI) (ca 0) (fun j z => True) n a H) (G0 : jT) (H0 : Heap) (r0 : Nat) (rb : Nat) (n_rb : Nat) (pe : Int32) (pt : Int32) : Met l yX4_digits (jw yX4_digits cX4_digits 2 (some .int)) ({ frames := 1, cells := 0, slots := 0, locals := 20 }) (va_Pc [.ref r0] (fun U => U.heap = H0 ∧ jX B base G0 [] H0 ∧ jG dC dI ca base U ∧ G0 r0 = some (6, 0) ∧ G0 rb = some (100, n_rb) ∧ jP (dC, dI) G0 H0 [(r0, 6, 9, .ref rb), (r0, 6, 10, .int pe), (r0, 6, 11, .int pt)] ∧ 0 ≤ pe.toInt ∧ pe.toInt ≤ n_rb ∧ n_rb ≤ 3000 ∧ 0 ≤ pt.toInt ∧ pt.toInt ≤ 19000 ∧ pt.toInt ≤ pe.toInt)) (va_Qi (S := Int32) (fun r u => (r.toInt = u.toInt - pt.toInt ∧ pt.toInt ≤ u.toInt ∧ u.toInt ≤ pe.toInt)) (fun u t => jRt (dC, dI) B base G0 EX4_digits H0 [(r0, 6, 11, .int u)] t.heap) (jA base)) 0 0 (jA base) := by
  refine Met.ofW (cc := cX4_digits) (maxL := 2) (ret := (some .int)) (by decide) rfl ?_
  intro p e s m args below meth c s₁ Bd hml hv
  obtain ⟨rfl, hH0, hX, hG, hg_r0, hg_rb, hP0, hp0, hp1, hp2, hp3, hp4, hp5⟩ := hv
  have hK := hG.1
  have hx := Bd.exec
  have hb := Bd.bytes
  have hr := Bd.returns
  have hts := atoms_spec (ws := (jw yX4_digits cX4_digits 2 (some .int))) Bd.pre
  have htw : ∀ w ∈ jWl, w.before _ s = true := fun w h => hts w (List.mem_cons_of_mem _ h)
  have hown : s.vm.findClass RX4 = some m.cls := findClass_of_methodNamed Bd.named
  have hlocks := Bd.notSynchronized
  obtain ⟨Q, hQ⟩ : ∃ Q, Q = MQ below (va_Qi (S := Int32) (fun r u => (r.toInt = u.toInt - pt.toInt ∧ pt.toInt ≤ u.toInt ∧ u.toInt ≤ pe.toInt)) (fun u t => jRt (dC, dI) B base G0 EX4_digits H0 [(r0, 6, 11, .int u)] t.heap) (jA base)) ([.ref r0] : List Value).toArray s 0 0 (jA base) := ⟨_, rfl⟩
  rw [← hQ]
  have hl := lv_entry ([.ref r0]) (n := 2) (Nat.le_of_ble_eq_true rfl)
  rw [lg_entry_eq]
  generalize (lg_sl ([.ref r0]) ++ List.replicate (2 - (lg_sl ([.ref r0])).length) Slot.unset).toArray = ls at hl ⊢
  have hl : lv_has ls 2 [(0, .ref r0)] := hl
  generalize hR : (headSpec (jw yX4_digits cX4_digits 2 (some .int)) ({ frames := 1, cells := 0, slots := 0, locals := 20 })).room = R
  subst hH0
  have hh : jSt (dC, dI) B base G0 G0 EX4_digits s.heap 0 0 [(r0, 6, 9, .ref rb), (r0, 6, 10, .int pe), (r0, 6, 11, .int pt)] [] [] s.heap [] := jSt.start hX hP0 jMc.nil jIs.nil
  clear hX hP0
  have hk0 : (0 : Int32).toInt = 0 := by decide
  have hk1 : (1 : Int32).toInt = 1 := by decide
  have hly_6_10 := htw (u_lay RX4 TX4 10) (jWc_wsX40 _ (u_in_lay (by decide)))
  have hly_6_11 := htw (u_lay RX4 TX4 11) (jWc_wsX40 _ (u_in_lay (by decide)))
  have hlk_47 := (htw (.fieldLink RX4 47 "ProofServer$Json" "at" "I") (jWr_19 _ (List.mem_of_getElem? (i := 12) rfl)))
  have hlk_43 := (htw (.fieldLink RX4 43 "ProofServer$Json" "end" "I") (jWr_19 _ (List.mem_of_getElem? (i := 11) rfl)))
  refine lv_aload_n hx hb dX4_digits_0 rfl (lv_at hl 0 rfl) ?_
  refine j7_read hx hb hown hK (C := RX4) (T := TX4) (N := 12) rfl hly_6_11 hlk_47 (hh.at 2 rfl) dX4_digits_1 ?_
  refine lv_istore_n (lv' := [(1, .int pt), (0, .ref r0)]) hx hb dX4_digits_4 rfl hl (by decide) rfl (fun ls hl => ?_)
  have L5 : ∀ (N : Nat) (wt_1 : Int32) (H_1 : Heap) (locs_1 : List Loc), jSt (dC, dI) B base G0 G0 EX4_digits s.heap 0 0 [(r0, 6, 11, .int wt_1), (r0, 6, 9, .ref rb), (r0, 6, 10, .int pe)] [] [] H_1 locs_1 → (pt.toInt ≤ wt_1.toInt ∧ wt_1.toInt ≤ pe.toInt) → (pe.toInt - wt_1.toInt : Int) < N → ∀ ls : Array Slot, lv_has ls 2 [(0, .ref r0), (1, .int pt)] → W p l e R s m ([.ref r0] : List Value).toArray below meth c H_1 locs_1 0 0 Q (F0 m 5 ls []) := by
    intro N
    induction N with
    | zero => intro wt_1 H_1 locs_1 hh_1  hi_1 hm; exact absurd hm (by omega)
    | succ N L5 =>
      intro wt_1 H_1 locs_1 hh_1  hi_1 hm_1 ls hl
      obtain ⟨hi_1_0, hi_1_1⟩ := hi_1
      refine lv_aload_n hx hb dX4_digits_5 rfl (lv_at hl 0 rfl) ?_
      refine j7_read hx hb hown hK (C := RX4) (T := TX4) (N := 12) rfl hly_6_11 hlk_47 (hh_1.at 0 rfl) dX4_digits_6 ?_
      refine lv_aload_n hx hb dX4_digits_9 rfl (lv_at hl 0 rfl) ?_
      refine j7_read hx hb hown hK (C := RX4) (T := TX4) (N := 12) rfl hly_6_10 hlk_43 (hh_1.at 2 rfl) dX4_digits_10 ?_
      refine lv_icmp_ge (tgt := 39) hx hb dX4_digits_13 (by decide) (fun c_2 => ?_) (fun c_2 => ?_)
      · skip
        have c_2' : wt_1.toInt ≥ pe.toInt := jb_ge (rfl) (rfl) c_2
        refine lv_aload_n hx hb dX4_digits_39 rfl (lv_at hl 0 rfl) ?_
        refine j7_read hx hb hown hK (C := RX4) (T := TX4) (N := 12) rfl hly_6_11 hlk_47 (hh_1.at 0 rfl) dX4_digits_40 ?_
        refine lv_iload_n hx hb dX4_digits_43 rfl (lv_at hl 1 rfl) ?_
        refine lv_isub hx hb dX4_digits_44 ?_
        refine lv_topi (fun z_3 ez_3 => ?_)
        have hz_3 : z_3.toInt = wt_1.toInt - pt.toInt := by rw [ez_3]; exact jb_isub2 (rfl) (rfl) (by omega)
        rw [hQ]
        exact W.iret (v := z_3) hx hb hr (fun t ht hW => ⟨⟨z_3, wt_1, rfl, by first | omega | (refine ⟨?_, ?_, ?_⟩ <;> (first | omega | rfl | assumption | decide | exact Or.inl rfl | exact Or.inr rfl | (simp only; omega))), hh_1.rt (M1 := [(r0, 6, 11, .int wt_1)]) [0] rfl ht⟩, by rw [ht]; try exact hh_1.1.1, fun q h9 hq => by rw [ht]; try exact hh_1.1.2.1 q h9 hq⟩) hh_1.1.2.2 dX4_digits_45
      · skip
        have c_2' : wt_1.toInt < pe.toInt := jb_ge_n (rfl) (rfl) c_2
        refine lv_aload_n hx hb dX4_digits_16 rfl (lv_at hl 0 rfl) ?_
        refine va_calli (A0 := jA base) (H0 := s.heap) (va_runV (As := []) (rest := []) ⟨hx, hb, hml, hown, hts⟩ (uX4_peek l dC dI ca base B hB hAp hB6 hB100 G0 H_1 r0 rb n_rb pe wt_1) (cwV 0 hts (jgV (jWr_19 _ (List.mem_of_getElem? (i := 19) rfl)) (jWr_19 _ (List.mem_of_getElem? (i := 20) rfl)) (jWr_19 _ (List.mem_of_getElem? (i := 21) rfl)) (jWr_1 _ (List.mem_of_getElem? (i := 22) rfl)) (jWr_19 _ (List.mem_of_getElem? (i := 22) rfl))) rfl rfl rfl (by decide +kernel) ⟨by rw [← hR]; exact Nat.le_of_ble_eq_true rfl, by rw [← hR]; exact Nat.le_of_ble_eq_true rfl⟩) ⟨fun a U g mk q => by obtain ⟨q0, q1, q2, qK, q10, q11, q12, q13⟩ := q; exact ⟨q0, q1, q2, jG.calling g mk a qK, q10, q11, q12, q13⟩, hh_1.recv (C := RX4) (T := TX4) (N := 12) hB6 rfl (by decide) hg_r0 hK, fun U hU hW => ⟨rfl, hU, hh_1.2.1, hG.step hW hU hh_1.1, hg_r0, hg_rb, (hh_1.2.2.1.sub (L1 := [(r0, 6, 9, .ref rb), (r0, 6, 10, .int pe), (r0, 6, 11, .int wt_1)]) [1, 2, 0] rfl), by first | omega | (refine ⟨?_, ?_, ?_, ?_, ?_⟩ <;> (first | omega | rfl | assumption | decide | exact Or.inl rfl | exact Or.inr rfl | (simp only; omega)))⟩⟩ rfl rfl hl.1 rfl (lv_room (Nat.le_of_ble_eq_true rfl)) dX4_digits_17 ⟨Nat.zero_le _, Nat.zero_le _⟩) hh_1.1 (fun q _ h => h) (fun q h => h) (fun r_5 u_4 t_4 H_4 locs_4 ht_4 hvm_4 hr_5 hb_4 hz_4 hk_4 hS_4 => ?_)
        rw [ht_4] at hb_4
        obtain ⟨hb_41, hb_42, hb_43, hb_44, hb_45⟩ := hb_4
        have hh_4 : jSt (dC, dI) B base G0 G0 EX4_digits s.heap 0 0 [(r0, 6, 11, .int wt_1), (r0, 6, 9, .ref rb), (r0, 6, 10, .int pe)] [] [] H_4 locs_4 := ((hh_1.call hb_41 hb_42 hb_43 hb_44 hS_4 rfl (L1 := [(r0, 6, 11, .int wt_1), (r0, 6, 9, .ref rb), (r0, 6, 10, .int pe)]) [0, 1, 2] rfl rfl (M1 := []) [] rfl rfl (I1 := []) [] rfl rfl).more hb_45)
        clear hh_1 ht_4 hvm_4 hz_4 hk_4 hS_4 hb_41 hb_42 hb_43 hb_44 hb_45
        obtain ⟨hr_5_0, hr_5_1, hr_5_2⟩ := hr_5
        refine vp_callSi (va_Run.run (va_runSN (As := [.int r_5]) (rest := []) ⟨hx, hb, hml, hown, hts⟩ (wX11_isDigit l dC dI ca base H_4 r_5) ⟨va_cnB 1 hts (jgW (jWr_22 _ (List.mem_of_getElem? (i := 15) rfl))) rfl rfl rfl (hG.2.2.1 RX4 108 yX11_isDigit "ProofServer" (List.mem_of_getElem? (i := 711) (by decide +kernel))) (htw (.initialized RX11) (jWr_1 _ (List.mem_of_getElem? (i := 2) rfl))) (by decide +kernel) ⟨by rw [← hR]; exact Nat.le_of_ble_eq_true rfl, by rw [← hR]; exact Nat.le_of_ble_eq_true rfl⟩, htw (.static yX11_isDigit) (jWr_22 _ (List.mem_of_getElem? (i := 14) rfl)), trivial⟩ ⟨fun a U g mk q => by obtain ⟨q0, q1, qK, q9⟩ := q; exact ⟨q0, q1, jG.calling g mk a qK, q9⟩, fun U hU hW => ⟨rfl, hU, hG.step hW hU hh_4.1, by first | trivial | omega | (constructor <;> omega)⟩⟩ rfl rfl hl.1 rfl (lv_room (Nat.le_of_ble_eq_true rfl)) dX4_digits_20 ⟨Nat.zero_le _, Nat.zero_le _⟩)) (fun r_6 hr_6 => ?_)
        have hr_6' : r_6.toInt = 0 ∨ r_6.toInt = 1 := jb_01 hr_6
        refine lv_if_eq (tgt := 39) hx hb dX4_digits_23 (by decide) (fun c_7 => ?_) (fun c_7 => ?_)
        · skip
          have c_7' : r_6.toInt = 0 := jb_eq (rfl) ((by decide)) c_7
          refine lv_aload_n hx hb dX4_digits_39 rfl (lv_at hl 0 rfl) ?_
          refine j7_read hx hb hown hK (C := RX4) (T := TX4) (N := 12) rfl hly_6_11 hlk_47 (hh_4.at 0 rfl) dX4_digits_40 ?_
          refine lv_iload_n hx hb dX4_digits_43 rfl (lv_at hl 1 rfl) ?_
          refine lv_isub hx hb dX4_digits_44 ?_
          refine lv_topi (fun z_8 ez_8 => ?_)
          have hz_8 : z_8.toInt = wt_1.toInt - pt.toInt := by rw [ez_8]; exact jb_isub2 (rfl) (rfl) (by omega)
          rw [hQ]
          exact W.iret (v := z_8) hx hb hr (fun t ht hW => ⟨⟨z_8, wt_1, rfl, by first | omega | (refine ⟨?_, ?_, ?_⟩ <;> (first | omega | rfl | assumption | decide | exact Or.inl rfl | exact Or.inr rfl | (simp only; omega))), hh_4.rt (M1 := [(r0, 6, 11, .int wt_1)]) [0] rfl ht⟩, by rw [ht]; try exact hh_4.1.1, fun q h9 hq => by rw [ht]; try exact hh_4.1.2.1 q h9 hq⟩) hh_4.1.2.2 dX4_digits_45
        · skip
          have c_7' : r_6.toInt ≠ 0 := jb_eq_n (rfl) ((by decide)) c_7
          refine lv_aload_n hx hb dX4_digits_26 rfl (lv_at hl 0 rfl) ?_
          refine lv_dup hx hb dX4_digits_27 rfl ?_
          refine j7_read hx hb hown hK (C := RX4) (T := TX4) (N := 12) rfl hly_6_11 hlk_47 (hh_4.at 0 rfl) dX4_digits_28 ?_
          refine lv_iconst (v := 1) hx hb dX4_digits_31 (by decide) ?_
          refine lv_iadd hx hb dX4_digits_32 ?_
          refine lv_topi (fun z_9 ez_9 => ?_)
          have hz_9 : z_9.toInt = wt_1.toInt + 1 := by rw [ez_9]; exact jb_iadd2 (rfl) ((by decide)) (by omega)
          refine j7_put hx hb hown hK hh_4 hB hAp hB6 (C := RX4) (T := TX4) (N := 12) rfl (by decide) hg_r0 (i := 11) (by decide) hly_6_11 rfl hlk_47 rfl (ty := .int) (v := .int z_9) (by decide +kernel) rfl rfl (⟨_, rfl, by omega, by omega⟩) rfl (L1 := [(r0, 6, 9, .ref rb), (r0, 6, 10, .int pe)]) [1, 2] rfl rfl rfl dX4_digits_33 (fun H_10 locs_10 hh_10 => ?_)
          clear hh_4
          refine lv_goto (tgt := 5) hx hb dX4_digits_36 (by decide) ?_
          exact L5 z_9 _ _ hh_10 (by first | omega | (refine ⟨?_, ?_⟩ <;> (first | omega | rfl | assumption | decide | exact Or.inl rfl | exact Or.inr rfl | (simp only; omega)))) (by omega) _ (lv_sub hl [0, 1] rfl)
  exact L5 (pe.toInt - (pt : Int32).toInt : Int).toNat.succ pt _ _ (hh.sub (L1 := [(r0, 6, 11, .int pt), (r0, 6, 9, .ref rb), (r0, 6, 10, .int pe)]) [2, 0, 1] rfl (M1 := []) [] rfl (I1 := []) [] rfl) (by first | omega | (refine ⟨?_, ?_⟩ <;> (first | omega | rfl | assumption | decide | exact Or.inl rfl | exact Or.inr rfl | (simp only; omega)))) (by omega) _ (lv_sub hl [1, 0] rfl)
set_option maxHeartbeats 4000000 in
set_option maxRecDepth 20000 in
theorem uX4_isColon (l : Launch) (dC : Nat → ClassId) (dI : Nat → Nat → Nat) (ca : Nat → ClassId) (base : Nat) (B : jF) (hB : jBok B) (hAp : jAp (dC, dI)) (hB6 : ∀ n G a H, B 6 n G a H ↔ jOb (dC, dI) 6 12 (F6 n G) a H) (hB100 : ∀ n G a H, B 100 n G a H ↔ jAr (dC, dI) (ca 0) (fun j z => True) n a H) (G0 : jT) (H0 : Heap) (r0 : Nat) (rb : Nat) (n_rb : Nat) (pe : Int32) (pt : Int32) : Met l yX4_isColon (jw yX4_isColon cX4_isColon 2 (some .boolean)) ({ frames := 2, cells := 0, slots := 0, locals := 40 }) (va_Pc [.ref r0] (fun U => U.heap = H0 ∧ jX B base G0 [] H0 ∧ jG dC dI ca base U ∧ G0 r0 = some (6, 0) ∧ G0 rb = some (100, n_rb) ∧ jP (dC, dI) G0 H0 [(r0, 6, 9, .ref rb), (r0, 6, 10, .int pe), (r0, 6, 11, .int pt)] ∧ 0 ≤ pe.toInt ∧ pe.toInt ≤ n_rb ∧ n_rb ≤ 3000 ∧ 0 ≤ pt.toInt ∧ pt.toInt ≤ 19000 ∧ pt.toInt ≤ pe.toInt)) (va_Qi (S := Int32) (fun r u => (r = 0 ∨ r = 1) ∧ (pt.toInt ≤ u.toInt ∧ u.toInt ≤ pe.toInt + 1 - r.toInt)) (fun u t => jRt (dC, dI) B base G0 EX4_isColon H0 [(r0, 6, 11, .int u)] t.heap) (jA base)) 0 0 (jA base) := by
  refine Met.ofW (cc := cX4_isColon) (maxL := 2) (ret := (some .boolean)) (by decide) rfl ?_
  intro p e s m args below meth c s₁ Bd hml hv
  obtain ⟨rfl, hH0, hX, hG, hg_r0, hg_rb, hP0, hp0, hp1, hp2, hp3, hp4, hp5⟩ := hv
  have hK := hG.1
  have hx := Bd.exec
  have hb := Bd.bytes
  have hr := Bd.returns
  have hts := atoms_spec (ws := (jw yX4_isColon cX4_isColon 2 (some .boolean))) Bd.pre
  have htw : ∀ w ∈ jWl, w.before _ s = true := fun w h => hts w (List.mem_cons_of_mem _ h)
  have hown : s.vm.findClass RX4 = some m.cls := findClass_of_methodNamed Bd.named
  have hlocks := Bd.notSynchronized
  obtain ⟨Q, hQ⟩ : ∃ Q, Q = MQ below (va_Qi (S := Int32) (fun r u => (r = 0 ∨ r = 1) ∧ (pt.toInt ≤ u.toInt ∧ u.toInt ≤ pe.toInt + 1 - r.toInt)) (fun u t => jRt (dC, dI) B base G0 EX4_isColon H0 [(r0, 6, 11, .int u)] t.heap) (jA base)) ([.ref r0] : List Value).toArray s 0 0 (jA base) := ⟨_, rfl⟩
  rw [← hQ]
  have hl := lv_entry ([.ref r0]) (n := 2) (Nat.le_of_ble_eq_true rfl)
  rw [lg_entry_eq]
  generalize (lg_sl ([.ref r0]) ++ List.replicate (2 - (lg_sl ([.ref r0])).length) Slot.unset).toArray = ls at hl ⊢
  have hl : lv_has ls 2 [(0, .ref r0)] := hl
  generalize hR : (headSpec (jw yX4_isColon cX4_isColon 2 (some .boolean)) ({ frames := 2, cells := 0, slots := 0, locals := 40 })).room = R
  subst hH0
  have hh : jSt (dC, dI) B base G0 G0 EX4_isColon s.heap 0 0 [(r0, 6, 9, .ref rb), (r0, 6, 10, .int pe), (r0, 6, 11, .int pt)] [] [] s.heap [] := jSt.start hX hP0 jMc.nil jIs.nil
  clear hX hP0
  have hk0 : (0 : Int32).toInt = 0 := by decide
  have hk1 : (1 : Int32).toInt = 1 := by decide
  have hk58 : (58 : Int32).toInt = 58 := by decide
  have hly_6_11 := htw (u_lay RX4 TX4 11) (jWc_wsX40 _ (u_in_lay (by decide)))
  have hlk_47 := (htw (.fieldLink RX4 47 "ProofServer$Json" "at" "I") (jWr_19 _ (List.mem_of_getElem? (i := 12) rfl)))
  refine lv_aload_n hx hb dX4_isColon_0 rfl (lv_at hl 0 rfl) ?_
  refine va_callv (A0 := jA base) (H0 := s.heap) (va_runV (As := []) (rest := []) ⟨hx, hb, hml, hown, hts⟩ (uX4_skipBlanks l dC dI ca base B hB hAp hB6 hB100 G0 s.heap r0 rb n_rb pe pt pe.toInt) (cwV 0 hts (jgV (jWr_19 _ (List.mem_of_getElem? (i := 15) rfl)) (jWr_19 _ (List.mem_of_getElem? (i := 16) rfl)) (jWr_19 _ (List.mem_of_getElem? (i := 17) rfl)) (jWr_1 _ (List.mem_of_getElem? (i := 22) rfl)) (jWr_19 _ (List.mem_of_getElem? (i := 18) rfl))) rfl rfl rfl (by decide +kernel) ⟨by rw [← hR]; exact Nat.le_of_ble_eq_true rfl, by rw [← hR]; exact Nat.le_of_ble_eq_true rfl⟩) ⟨fun a U g mk q => by obtain ⟨q0, q1, q2, qK, q10, q11, q12, q13⟩ := q; exact ⟨q0, q1, q2, jG.calling g mk a qK, q10, q11, q12, q13⟩, hh.recv (C := RX4) (T := TX4) (N := 12) hB6 rfl (by decide) hg_r0 hK, fun U hU hW => ⟨rfl, hU, hh.2.1, hG.step hW hU hh.1, hg_r0, hg_rb, (hh.2.2.1.sub (L1 := [(r0, 6, 9, .ref rb), (r0, 6, 10, .int pe), (r0, 6, 11, .int pt)]) [0, 1, 2] rfl), by first | omega | (refine ⟨?_, ?_, ?_, ?_, ?_, ?_, ?_, ?_⟩ <;> (first | omega | rfl | assumption | decide | exact Or.inl rfl | exact Or.inr rfl | (simp only; omega)))⟩⟩ rfl rfl hl.1 rfl (lv_room (Nat.le_of_ble_eq_true rfl)) dX4_isColon_1 ⟨Nat.zero_le _, Nat.zero_le _⟩) hh.1 (fun q _ h => h) (fun q h => h) (fun u_1 t_1 H_1 locs_1 ht_1 hvm_1 hr_2 hb_1 hz_1 hk_1 hS_1 => ?_)
  obtain ⟨qt_1, rfl⟩ : ∃ z, z = u_1 := ⟨_, rfl⟩
  rw [ht_1] at hb_1
  obtain ⟨hb_11, hb_12, hb_13, hb_14, hb_15⟩ := hb_1
  have hh_1 : jSt (dC, dI) B base G0 G0 EX4_isColon s.heap 0 0 [(r0, 6, 11, .int qt_1), (r0, 6, 9, .ref rb), (r0, 6, 10, .int pe)] [] [] H_1 locs_1 := ((hh.call hb_11 hb_12 hb_13 hb_14 hS_1 rfl (L1 := [(r0, 6, 9, .ref rb), (r0, 6, 10, .int pe)]) [0, 1] rfl rfl (M1 := []) [] rfl rfl (I1 := []) [] rfl rfl).more hb_15)
  clear hh ht_1 hvm_1 hz_1 hk_1 hS_1 hb_11 hb_12 hb_13 hb_14 hb_15
  obtain ⟨hr_2_0, hr_2_1⟩ := hr_2
  refine lv_aload_n hx hb dX4_isColon_4 rfl (lv_at hl 0 rfl) ?_
  refine va_calli (A0 := jA base) (H0 := s.heap) (va_runV (As := []) (rest := []) ⟨hx, hb, hml, hown, hts⟩ (uX4_peek l dC dI ca base B hB hAp hB6 hB100 G0 H_1 r0 rb n_rb pe qt_1) (cwV 0 hts (jgV (jWr_19 _ (List.mem_of_getElem? (i := 19) rfl)) (jWr_19 _ (List.mem_of_getElem? (i := 20) rfl)) (jWr_19 _ (List.mem_of_getElem? (i := 21) rfl)) (jWr_1 _ (List.mem_of_getElem? (i := 22) rfl)) (jWr_19 _ (List.mem_of_getElem? (i := 22) rfl))) rfl rfl rfl (by decide +kernel) ⟨by rw [← hR]; exact Nat.le_of_ble_eq_true rfl, by rw [← hR]; exact Nat.le_of_ble_eq_true rfl⟩) ⟨fun a U g mk q => by obtain ⟨q0, q1, q2, qK, q10, q11, q12, q13⟩ := q; exact ⟨q0, q1, q2, jG.calling g mk a qK, q10, q11, q12, q13⟩, hh_1.recv (C := RX4) (T := TX4) (N := 12) hB6 rfl (by decide) hg_r0 hK, fun U hU hW => ⟨rfl, hU, hh_1.2.1, hG.step hW hU hh_1.1, hg_r0, hg_rb, (hh_1.2.2.1.sub (L1 := [(r0, 6, 9, .ref rb), (r0, 6, 10, .int pe), (r0, 6, 11, .int qt_1)]) [1, 2, 0] rfl), by first | omega | (refine ⟨?_, ?_, ?_, ?_, ?_⟩ <;> (first | omega | rfl | assumption | decide | exact Or.inl rfl | exact Or.inr rfl | (simp only; omega)))⟩⟩ rfl rfl hl.1 rfl (lv_room (Nat.le_of_ble_eq_true rfl)) dX4_isColon_5 ⟨Nat.zero_le _, Nat.zero_le _⟩) hh_1.1 (fun q _ h => h) (fun q h => h) (fun r_4 u_3 t_3 H_3 locs_3 ht_3 hvm_3 hr_4 hb_3 hz_3 hk_3 hS_3 => ?_)
  rw [ht_3] at hb_3
  obtain ⟨hb_31, hb_32, hb_33, hb_34, hb_35⟩ := hb_3
  have hh_3 : jSt (dC, dI) B base G0 G0 EX4_isColon s.heap 0 0 [(r0, 6, 11, .int qt_1), (r0, 6, 9, .ref rb), (r0, 6, 10, .int pe)] [] [] H_3 locs_3 := ((hh_1.call hb_31 hb_32 hb_33 hb_34 hS_3 rfl (L1 := [(r0, 6, 11, .int qt_1), (r0, 6, 9, .ref rb), (r0, 6, 10, .int pe)]) [0, 1, 2] rfl rfl (M1 := []) [] rfl rfl (I1 := []) [] rfl rfl).more hb_35)
  clear hh_1 ht_3 hvm_3 hz_3 hk_3 hS_3 hb_31 hb_32 hb_33 hb_34 hb_35
  obtain ⟨hr_4_0, hr_4_1, hr_4_2⟩ := hr_4
  refine lv_bipush (v := 58) hx hb dX4_isColon_8 (by decide) ?_
  refine lv_icmp_ne (tgt := 17) hx hb dX4_isColon_10 (by decide) (fun c_5 => ?_) (fun c_5 => ?_)
  · skip
    have c_5' : r_4.toInt ≠ 58 := jb_ne (rfl) ((by decide)) c_5
    try clear hr_4_2
    refine lv_iconst (v := 0) hx hb dX4_isColon_17 (by decide) ?_
    refine lv_istore_n (lv' := [(1, .int 0), (0, .ref r0)]) hx hb dX4_isColon_18 rfl hl (by decide) rfl (fun ls hl => ?_)
    refine lv_aload_n hx hb dX4_isColon_19 rfl (lv_at hl 1 rfl) ?_
    refine lv_dup hx hb dX4_isColon_20 rfl ?_
    refine j7_read hx hb hown hK (C := RX4) (T := TX4) (N := 12) rfl hly_6_11 hlk_47 (hh_3.at 0 rfl) dX4_isColon_21 ?_
    refine lv_iconst (v := 1) hx hb dX4_isColon_24 (by decide) ?_
    refine lv_iadd hx hb dX4_isColon_25 ?_
    refine lv_topi (fun z_6 ez_6 => ?_)
    have hz_6 : z_6.toInt = qt_1.toInt + 1 := by rw [ez_6]; exact jb_iadd2 (rfl) ((by decide)) (by omega)
    refine j7_put hx hb hown hK hh_3 hB hAp hB6 (C := RX4) (T := TX4) (N := 12) rfl (by decide) hg_r0 (i := 11) (by decide) hly_6_11 rfl hlk_47 rfl (ty := .int) (v := .int z_6) (by decide +kernel) rfl rfl (⟨_, rfl, by omega, by omega⟩) rfl (L1 := [(r0, 6, 9, .ref rb), (r0, 6, 10, .int pe)]) [1, 2] rfl rfl rfl dX4_isColon_26 (fun H_7 locs_7 hh_7 => ?_)
    clear hh_3
    refine lv_aload_n hx hb dX4_isColon_29 rfl (lv_at hl 1 rfl) ?_
    refine va_callv (A0 := jA base) (H0 := s.heap) (va_runV (As := []) (rest := []) ⟨hx, hb, hml, hown, hts⟩ (uX4_skipBlanks l dC dI ca base B hB hAp hB6 hB100 G0 H_7 r0 rb n_rb pe z_6 (pe.toInt + 1 - 0)) (cwV 0 hts (jgV (jWr_19 _ (List.mem_of_getElem? (i := 15) rfl)) (jWr_19 _ (List.mem_of_getElem? (i := 16) rfl)) (jWr_19 _ (List.mem_of_getElem? (i := 17) rfl)) (jWr_1 _ (List.mem_of_getElem? (i := 22) rfl)) (jWr_19 _ (List.mem_of_getElem? (i := 18) rfl))) rfl rfl rfl (by decide +kernel) ⟨by rw [← hR]; exact Nat.le_of_ble_eq_true rfl, by rw [← hR]; exact Nat.le_of_ble_eq_true rfl⟩) ⟨fun a U g mk q => by obtain ⟨q0, q1, q2, qK, q10, q11, q12, q13⟩ := q; exact ⟨q0, q1, q2, jG.calling g mk a qK, q10, q11, q12, q13⟩, hh_7.recv (C := RX4) (T := TX4) (N := 12) hB6 rfl (by decide) hg_r0 hK, fun U hU hW => ⟨rfl, hU, hh_7.2.1, hG.step hW hU hh_7.1, hg_r0, hg_rb, (hh_7.2.2.1.sub (L1 := [(r0, 6, 9, .ref rb), (r0, 6, 10, .int pe), (r0, 6, 11, .int z_6)]) [1, 2, 0] rfl), by first | omega | (refine ⟨?_, ?_, ?_, ?_, ?_, ?_, ?_, ?_⟩ <;> (first | omega | rfl | assumption | decide | exact Or.inl rfl | exact Or.inr rfl | (simp only; omega)))⟩⟩ rfl rfl hl.1 rfl (lv_room (Nat.le_of_ble_eq_true rfl)) dX4_isColon_30 ⟨Nat.zero_le _, Nat.zero_le _⟩) hh_7.1 (fun q _ h => h) (fun q h => h) (fun u_8 t_8 H_8 locs_8 ht_8 hvm_8 hr_9 hb_8 hz_8 hk_8 hS_8 => ?_)
    obtain ⟨qt_8, rfl⟩ : ∃ z, z = u_8 := ⟨_, rfl⟩
    rw [ht_8] at hb_8
    obtain ⟨hb_81, hb_82, hb_83, hb_84, hb_85⟩ := hb_8
    have hh_8 : jSt (dC, dI) B base G0 G0 EX4_isColon s.heap 0 0 [(r0, 6, 11, .int qt_8), (r0, 6, 9, .ref rb), (r0, 6, 10, .int pe)] [] [] H_8 locs_8 := ((hh_7.call hb_81 hb_82 hb_83 hb_84 hS_8 rfl (L1 := [(r0, 6, 9, .ref rb), (r0, 6, 10, .int pe)]) [1, 2] rfl rfl (M1 := []) [] rfl rfl (I1 := []) [] rfl rfl).more hb_85)
    clear hh_7 ht_8 hvm_8 hz_8 hk_8 hS_8 hb_81 hb_82 hb_83 hb_84 hb_85
    obtain ⟨hr_9_0, hr_9_1⟩ := hr_9
    refine lv_iload_n hx hb dX4_isColon_33 rfl (lv_at hl 0 rfl) ?_
    rw [hQ]
    exact W.zret (v := 0) hx hb hr (jb_nz (Or.inl rfl)) (fun t ht hW => ⟨⟨0, qt_8, rfl, ⟨(Or.inl rfl), by first | omega | (refine ⟨?_, ?_⟩ <;> (first | omega | rfl | assumption | decide | exact Or.inl rfl | exact Or.inr rfl | (simp only; omega)))⟩, hh_8.rt (M1 := [(r0, 6, 11, .int qt_8)]) [0] rfl ht⟩, by rw [ht]; try exact hh_8.1.1, fun q h9 hq => by rw [ht]; try exact hh_8.1.2.1 q h9 hq⟩) hh_8.1.2.2 dX4_isColon_34
  · skip
    have c_5' : r_4.toInt = 58 := jb_ne_n (rfl) ((by decide)) c_5
    first | (have hr_4_2q := hr_4_2.resolve_left (by omega); clear hr_4_2) | (have hr_4_2q := hr_4_2.resolve_right (by omega); clear hr_4_2) | try clear hr_4_2
    refine lv_iconst (v := 1) hx hb dX4_isColon_13 (by decide) ?_
    refine lv_goto (tgt := 18) hx hb dX4_isColon_14 (by decide) ?_
    refine lv_istore_n (lv' := [(1, .int 1), (0, .ref r0)]) hx hb dX4_isColon_18 rfl hl (by decide) rfl (fun ls hl => ?_)
    refine lv_aload_n hx hb dX4_isColon_19 rfl (lv_at hl 1 rfl) ?_
    refine lv_dup hx hb dX4_isColon_20 rfl ?_
    refine j7_read hx hb hown hK (C := RX4) (T := TX4) (N := 12) rfl hly_6_11 hlk_47 (hh_3.at 0 rfl) dX4_isColon_21 ?_
    refine lv_iconst (v := 1) hx hb dX4_isColon_24 (by decide) ?_
    refine lv_iadd hx hb dX4_isColon_25 ?_
    refine lv_topi (fun z_10 ez_10 => ?_)
    have hz_10 : z_10.toInt = qt_1.toInt + 1 := by rw [ez_10]; exact jb_iadd2 (rfl) ((by decide)) (by omega)
    refine j7_put hx hb hown hK hh_3 hB hAp hB6 (C := RX4) (T := TX4) (N := 12) rfl (by decide) hg_r0 (i := 11) (by decide) hly_6_11 rfl hlk_47 rfl (ty := .int) (v := .int z_10) (by decide +kernel) rfl rfl (⟨_, rfl, by omega, by omega⟩) rfl (L1 := [(r0, 6, 9, .ref rb), (r0, 6, 10, .int pe)]) [1, 2] rfl rfl rfl dX4_isColon_26 (fun H_11 locs_11 hh_11 => ?_)
    clear hh_3
    refine lv_aload_n hx hb dX4_isColon_29 rfl (lv_at hl 1 rfl) ?_
    refine va_callv (A0 := jA base) (H0 := s.heap) (va_runV (As := []) (rest := []) ⟨hx, hb, hml, hown, hts⟩ (uX4_skipBlanks l dC dI ca base B hB hAp hB6 hB100 G0 H_11 r0 rb n_rb pe z_10 (pe.toInt + 1 - 1)) (cwV 0 hts (jgV (jWr_19 _ (List.mem_of_getElem? (i := 15) rfl)) (jWr_19 _ (List.mem_of_getElem? (i := 16) rfl)) (jWr_19 _ (List.mem_of_getElem? (i := 17) rfl)) (jWr_1 _ (List.mem_of_getElem? (i := 22) rfl)) (jWr_19 _ (List.mem_of_getElem? (i := 18) rfl))) rfl rfl rfl (by decide +kernel) ⟨by rw [← hR]; exact Nat.le_of_ble_eq_true rfl, by rw [← hR]; exact Nat.le_of_ble_eq_true rfl⟩) ⟨fun a U g mk q => by obtain ⟨q0, q1, q2, qK, q10, q11, q12, q13⟩ := q; exact ⟨q0, q1, q2, jG.calling g mk a qK, q10, q11, q12, q13⟩, hh_11.recv (C := RX4) (T := TX4) (N := 12) hB6 rfl (by decide) hg_r0 hK, fun U hU hW => ⟨rfl, hU, hh_11.2.1, hG.step hW hU hh_11.1, hg_r0, hg_rb, (hh_11.2.2.1.sub (L1 := [(r0, 6, 9, .ref rb), (r0, 6, 10, .int pe), (r0, 6, 11, .int z_10)]) [1, 2, 0] rfl), by first | omega | (refine ⟨?_, ?_, ?_, ?_, ?_, ?_, ?_, ?_⟩ <;> (first | omega | rfl | assumption | decide | exact Or.inl rfl | exact Or.inr rfl | (simp only; omega)))⟩⟩ rfl rfl hl.1 rfl (lv_room (Nat.le_of_ble_eq_true rfl)) dX4_isColon_30 ⟨Nat.zero_le _, Nat.zero_le _⟩) hh_11.1 (fun q _ h => h) (fun q h => h) (fun u_12 t_12 H_12 locs_12 ht_12 hvm_12 hr_13 hb_12 hz_12 hk_12 hS_12 => ?_)
    obtain ⟨qt_12, rfl⟩ : ∃ z, z = u_12 := ⟨_, rfl⟩
    rw [ht_12] at hb_12
    obtain ⟨hb_121, hb_122, hb_123, hb_124, hb_125⟩ := hb_12
    have hh_12 : jSt (dC, dI) B base G0 G0 EX4_isColon s.heap 0 0 [(r0, 6, 11, .int qt_12), (r0, 6, 9, .ref rb), (r0, 6, 10, .int pe)] [] [] H_12 locs_12 := ((hh_11.call hb_121 hb_122 hb_123 hb_124 hS_12 rfl (L1 := [(r0, 6, 9, .ref rb), (r0, 6, 10, .int pe)]) [1, 2] rfl rfl (M1 := []) [] rfl rfl (I1 := []) [] rfl rfl).more hb_125)
    clear hh_11 ht_12 hvm_12 hz_12 hk_12 hS_12 hb_121 hb_122 hb_123 hb_124 hb_125
    obtain ⟨hr_13_0, hr_13_1⟩ := hr_13
    refine lv_iload_n hx hb dX4_isColon_33 rfl (lv_at hl 0 rfl) ?_
    rw [hQ]
    exact W.zret (v := 1) hx hb hr (jb_nz (Or.inr rfl)) (fun t ht hW => ⟨⟨1, qt_12, rfl, ⟨(Or.inr rfl), by first | omega | (refine ⟨?_, ?_⟩ <;> (first | omega | rfl | assumption | decide | exact Or.inl rfl | exact Or.inr rfl | (simp only; omega)))⟩, hh_12.rt (M1 := [(r0, 6, 11, .int qt_12)]) [0] rfl ht⟩, by rw [ht]; try exact hh_12.1.1, fun q h9 hq => by rw [ht]; try exact hh_12.1.2.1 q h9 hq⟩) hh_12.1.2.2 dX4_isColon_34
set_option maxHeartbeats 4000000 in
set_option maxRecDepth 20000 in
theorem uX4_fourDigits (l : Launch) (dC : Nat → ClassId) (dI : Nat → Nat → Nat) (ca : Nat → ClassId) (base : Nat) (B : jF) (hB : jBok B) (hAp : jAp (dC, dI)) (hB6 : ∀ n G a H, B 6 n G a H ↔ jOb (dC, dI) 6 12 (F6 n G) a H) (hB100 : ∀ n G a H, B 100 n G a H ↔ jAr (dC, dI) (ca 0) (fun j z => True) n a H) (G0 : jT) (H0 : Heap) (r0 : Nat) (rb : Nat) (n_rb : Nat) (pe : Int32) (pt : Int32) : Met l yX4_fourDigits (jw yX4_fourDigits cX4_fourDigits 6 (some .int)) ({ frames := 0, cells := 0, slots := 0, locals := 0 }) (va_Pc [.ref r0] (fun U => U.heap = H0 ∧ jX B base G0 [] H0 ∧ jG dC dI ca base U ∧ G0 r0 = some (6, 0) ∧ G0 rb = some (100, n_rb) ∧ jP (dC, dI) G0 H0 [(r0, 6, 9, .ref rb), (r0, 6, 10, .int pe), (r0, 6, 11, .int pt)] ∧ 0 ≤ pe.toInt ∧ pe.toInt ≤ n_rb ∧ n_rb ≤ 3000 ∧ 0 ≤ pt.toInt ∧ pt.toInt ≤ 19000 ∧ pt.toInt ≤ pe.toInt)) (va_Qi (S := Int32) (fun r u => (pt.toInt ≤ u.toInt ∧ u.toInt ≤ pe.toInt)) (fun u t => jRt (dC, dI) B base G0 EX4_fourDigits H0 [(r0, 6, 11, .int u)] t.heap) (jA base)) 0 0 (jA base) := by
  refine Met.ofW (cc := cX4_fourDigits) (maxL := 6) (ret := (some .int)) (by decide) rfl ?_
  intro p e s m args below meth c s₁ Bd hml hv
  obtain ⟨rfl, hH0, hX, hG, hg_r0, hg_rb, hP0, hp0, hp1, hp2, hp3, hp4, hp5⟩ := hv
  have hK := hG.1
  have hx := Bd.exec
  have hb := Bd.bytes
  have hr := Bd.returns
  have hts := atoms_spec (ws := (jw yX4_fourDigits cX4_fourDigits 6 (some .int))) Bd.pre
  have htw : ∀ w ∈ jWl, w.before _ s = true := fun w h => hts w (List.mem_cons_of_mem _ h)
  have hown : s.vm.findClass RX4 = some m.cls := findClass_of_methodNamed Bd.named
  have hlocks := Bd.notSynchronized
  obtain ⟨Q, hQ⟩ : ∃ Q, Q = MQ below (va_Qi (S := Int32) (fun r u => (pt.toInt ≤ u.toInt ∧ u.toInt ≤ pe.toInt)) (fun u t => jRt (dC, dI) B base G0 EX4_fourDigits H0 [(r0, 6, 11, .int u)] t.heap) (jA base)) ([.ref r0] : List Value).toArray s 0 0 (jA base) := ⟨_, rfl⟩
  rw [← hQ]
  have hl := lv_entry ([.ref r0]) (n := 6) (Nat.le_of_ble_eq_true rfl)
  rw [lg_entry_eq]
  generalize (lg_sl ([.ref r0]) ++ List.replicate (6 - (lg_sl ([.ref r0])).length) Slot.unset).toArray = ls at hl ⊢
  have hl : lv_has ls 6 [(0, .ref r0)] := hl
  generalize hR : (headSpec (jw yX4_fourDigits cX4_fourDigits 6 (some .int)) ({ frames := 0, cells := 0, slots := 0, locals := 0 })).room = R
  subst hH0
  have hh : jSt (dC, dI) B base G0 G0 EX4_fourDigits s.heap 0 0 [(r0, 6, 9, .ref rb), (r0, 6, 10, .int pe), (r0, 6, 11, .int pt)] [] [] s.heap [] := jSt.start hX hP0 jMc.nil jIs.nil
  clear hX hP0
  have hkm1 : ((-1) : Int32).toInt = (-1) := by decide
  have hk0 : (0 : Int32).toInt = 0 := by decide
  have hk1 : (1 : Int32).toInt = 1 := by decide
  have hk4 : (4 : Int32).toInt = 4 := by decide
  have hk10 : (10 : Int32).toInt = 10 := by decide
  have hk32 : (32 : Int32).toInt = 32 := by decide
  have hk48 : (48 : Int32).toInt = 48 := by decide
  have hk57 : (57 : Int32).toInt = 57 := by decide
  have hk65 : (65 : Int32).toInt = 65 := by decide
  have hk70 : (70 : Int32).toInt = 70 := by decide
  have hk97 : (97 : Int32).toInt = 97 := by decide
  have hk102 : (102 : Int32).toInt = 102 := by decide
  have hly_6_9 := htw (u_lay RX4 TX4 9) (jWc_wsX40 _ (u_in_lay (by decide)))
  have hly_6_10 := htw (u_lay RX4 TX4 10) (jWc_wsX40 _ (u_in_lay (by decide)))
  have hly_6_11 := htw (u_lay RX4 TX4 11) (jWc_wsX40 _ (u_in_lay (by decide)))
  have hlk_47 := (htw (.fieldLink RX4 47 "ProofServer$Json" "at" "I") (jWr_19 _ (List.mem_of_getElem? (i := 12) rfl)))
  have hlk_43 := (htw (.fieldLink RX4 43 "ProofServer$Json" "end" "I") (jWr_19 _ (List.mem_of_getElem? (i := 11) rfl)))
  have hlk_33 := (htw (.fieldLink RX4 33 "ProofServer$Json" "bytes" "[B") (jWr_4 _ (List.mem_of_getElem? (i := 4) rfl)))
  refine lv_iconst (v := 0) hx hb dX4_fourDigits_0 (by decide) ?_
  refine lv_istore_n (lv' := [(1, .int 0), (0, .ref r0)]) hx hb dX4_fourDigits_1 rfl hl (by decide) rfl (fun ls hl => ?_)
  refine lv_iconst (v := 0) hx hb dX4_fourDigits_2 (by decide) ?_
  refine lv_istore_n (lv' := [(2, .int 0), (1, .int 0), (0, .ref r0)]) hx hb dX4_fourDigits_3 rfl hl (by decide) rfl (fun ls hl => ?_)
  have L4 : ∀ (N : Nat) (v1_1 : Int32) (v2_1 : Int32) (wt_1 : Int32) (H_1 : Heap) (locs_1 : List Loc), jSt (dC, dI) B base G0 G0 EX4_fourDigits s.heap 0 0 [(r0, 6, 11, .int wt_1), (r0, 6, 9, .ref rb), (r0, 6, 10, .int pe)] [] [] H_1 locs_1 → (0 ≤ v2_1.toInt ∧ v2_1.toInt ≤ 4 ∧ pt.toInt ≤ wt_1.toInt ∧ wt_1.toInt ≤ pe.toInt) → (4 - v2_1.toInt : Int) < N → ∀ ls : Array Slot, lv_has ls 6 [(0, .ref r0), (1, .int v1_1), (2, .int v2_1)] → W p l e R s m ([.ref r0] : List Value).toArray below meth c H_1 locs_1 0 0 Q (F0 m 4 ls []) := by
    intro N
    induction N with
    | zero => intro v1_1 v2_1 wt_1 H_1 locs_1 hh_1  hi_1 hm; exact absurd hm (by omega)
    | succ N L4 =>
      intro v1_1 v2_1 wt_1 H_1 locs_1 hh_1  hi_1 hm_1 ls hl
      obtain ⟨hi_1_0, hi_1_1, hi_1_2, hi_1_3⟩ := hi_1
      refine lv_iload_n hx hb dX4_fourDigits_4 rfl (lv_at hl 2 rfl) ?_
      refine lv_iconst (v := 4) hx hb dX4_fourDigits_5 (by decide) ?_
      refine lv_icmp_ge (tgt := 137) hx hb dX4_fourDigits_6 (by decide) (fun c_2 => ?_) (fun c_2 => ?_)
      · skip
        have c_2' : v2_1.toInt ≥ 4 := jb_ge (rfl) ((by decide)) c_2
        refine lv_iload_n hx hb dX4_fourDigits_137 rfl (lv_at hl 1 rfl) ?_
        rw [hQ]
        exact W.iret (v := v1_1) hx hb hr (fun t ht hW => ⟨⟨v1_1, wt_1, rfl, by first | omega | (refine ⟨?_, ?_⟩ <;> (first | omega | rfl | assumption | decide | exact Or.inl rfl | exact Or.inr rfl | (simp only; omega))), hh_1.rt (M1 := [(r0, 6, 11, .int wt_1)]) [0] rfl ht⟩, by rw [ht]; try exact hh_1.1.1, fun q h9 hq => by rw [ht]; try exact hh_1.1.2.1 q h9 hq⟩) hh_1.1.2.2 dX4_fourDigits_138
      · skip
        have c_2' : v2_1.toInt < 4 := jb_ge_n (rfl) ((by decide)) c_2
        refine lv_aload_n hx hb dX4_fourDigits_9 rfl (lv_at hl 0 rfl) ?_
        refine j7_read hx hb hown hK (C := RX4) (T := TX4) (N := 12) rfl hly_6_11 hlk_47 (hh_1.at 0 rfl) dX4_fourDigits_10 ?_
        refine lv_aload_n hx hb dX4_fourDigits_13 rfl (lv_at hl 0 rfl) ?_
        refine j7_read hx hb hown hK (C := RX4) (T := TX4) (N := 12) rfl hly_6_10 hlk_43 (hh_1.at 2 rfl) dX4_fourDigits_14 ?_
        refine lv_icmp_ge (tgt := 32) hx hb dX4_fourDigits_17 (by decide) (fun c_3 => ?_) (fun c_3 => ?_)
        · skip
          have c_3' : wt_1.toInt ≥ pe.toInt := jb_ge (rfl) (rfl) c_3
          refine lv_iconst (v := (-1)) hx hb dX4_fourDigits_32 (by decide) ?_
          refine lv_istore_n (lv' := [(3, .int (-1)), (0, .ref r0), (1, .int v1_1), (2, .int v2_1)]) hx hb dX4_fourDigits_33 rfl hl (by decide) rfl (fun ls hl => ?_)
          refine lv_iload_n hx hb dX4_fourDigits_34 rfl (lv_at hl 0 rfl) ?_
          refine lv_bipush (v := 65) hx hb dX4_fourDigits_35 (by decide) ?_
          refine lv_icmp_lt (tgt := 53) hx hb dX4_fourDigits_37 (by decide) (fun c_4 => ?_) (fun c_4 => ?_)
          · skip
            refine lv_iload_n hx hb dX4_fourDigits_53 rfl (lv_at hl 0 rfl) ?_
            refine lv_istore (lv' := [(4, .int (-1)), (3, .int (-1)), (0, .ref r0), (1, .int v1_1), (2, .int v2_1)]) hx hb dX4_fourDigits_54 hl (by decide) rfl (fun ls hl => ?_)
            refine lv_iload hx hb dX4_fourDigits_56 (lv_at hl 0 rfl) ?_
            refine lv_bipush (v := 97) hx hb dX4_fourDigits_58 (by decide) ?_
            refine lv_icmp_lt (tgt := 74) hx hb dX4_fourDigits_60 (by decide) (fun c_5 => ?_) (fun c_5 => ?_)
            · skip
              refine lv_iconst (v := 0) hx hb dX4_fourDigits_74 (by decide) ?_
              refine lv_istore (lv' := [(5, .int 0), (4, .int (-1)), (3, .int (-1)), (0, .ref r0), (1, .int v1_1), (2, .int v2_1)]) hx hb dX4_fourDigits_75 hl (by decide) rfl (fun ls hl => ?_)
              refine lv_iload hx hb dX4_fourDigits_77 (lv_at hl 0 rfl) ?_
              refine lv_if_ne (tgt := 96) hx hb dX4_fourDigits_79 (by decide) (fun c_6 => ?_) (fun c_6 => ?_)
              · skip
                exact absurd c_6 (by decide)
              · skip
                refine lv_iload_n hx hb dX4_fourDigits_82 rfl (lv_at hl 2 rfl) ?_
                refine lv_bipush (v := 48) hx hb dX4_fourDigits_83 (by decide) ?_
                refine lv_icmp_lt (tgt := 94) hx hb dX4_fourDigits_85 (by decide) (fun c_7 => ?_) (fun c_7 => ?_)
                · skip
                  refine lv_iconst (v := (-1)) hx hb dX4_fourDigits_94 (by decide) ?_
                  rw [hQ]
                  exact W.iret (v := (-1)) hx hb hr (fun t ht hW => ⟨⟨(-1), wt_1, rfl, by first | omega | (refine ⟨?_, ?_⟩ <;> (first | omega | rfl | assumption | decide | exact Or.inl rfl | exact Or.inr rfl | (simp only; omega))), hh_1.rt (M1 := [(r0, 6, 11, .int wt_1)]) [0] rfl ht⟩, by rw [ht]; try exact hh_1.1.1, fun q h9 hq => by rw [ht]; try exact hh_1.1.2.1 q h9 hq⟩) hh_1.1.2.2 dX4_fourDigits_95
                · skip
                  exact absurd c_7 (by decide)
            · skip
              exact absurd c_5 (by decide)
          · skip
            exact absurd c_4 (by decide)
        · skip
          have c_3' : wt_1.toInt < pe.toInt := jb_ge_n (rfl) (rfl) c_3
          refine lv_aload_n hx hb dX4_fourDigits_20 rfl (lv_at hl 0 rfl) ?_
          refine j7_read hx hb hown hK (C := RX4) (T := TX4) (N := 12) rfl hly_6_9 hlk_33 (hh_1.at 1 rfl) dX4_fourDigits_21 ?_
          refine lv_aload_n hx hb dX4_fourDigits_24 rfl (lv_at hl 0 rfl) ?_
          refine j7_read hx hb hown hK (C := RX4) (T := TX4) (N := 12) rfl hly_6_11 hlk_47 (hh_1.at 0 rfl) dX4_fourDigits_25 ?_
          refine j7_bald hx hb hK hh_1 hB100 0 rfl (by decide) hg_rb (x := wt_1.toInt) (rfl) (by omega) dX4_fourDigits_28 (fun z_8 (hz_8 : True) => ?_)
          refine lv_goto (tgt := 33) hx hb dX4_fourDigits_29 (by decide) ?_
          refine lv_istore_n (lv' := [(3, .int z_8), (0, .ref r0), (1, .int v1_1), (2, .int v2_1)]) hx hb dX4_fourDigits_33 rfl hl (by decide) rfl (fun ls hl => ?_)
          refine lv_iload_n hx hb dX4_fourDigits_34 rfl (lv_at hl 0 rfl) ?_
          refine lv_bipush (v := 65) hx hb dX4_fourDigits_35 (by decide) ?_
          refine lv_icmp_lt (tgt := 53) hx hb dX4_fourDigits_37 (by decide) (fun c_9 => ?_) (fun c_9 => ?_)
          · skip
            have c_9' : z_8.toInt < 65 := jb_lt (rfl) ((by decide)) c_9
            refine lv_iload_n hx hb dX4_fourDigits_53 rfl (lv_at hl 0 rfl) ?_
            refine lv_istore (lv' := [(4, .int z_8), (3, .int z_8), (0, .ref r0), (1, .int v1_1), (2, .int v2_1)]) hx hb dX4_fourDigits_54 hl (by decide) rfl (fun ls hl => ?_)
            refine lv_iload hx hb dX4_fourDigits_56 (lv_at hl 0 rfl) ?_
            refine lv_bipush (v := 97) hx hb dX4_fourDigits_58 (by decide) ?_
            refine lv_icmp_lt (tgt := 74) hx hb dX4_fourDigits_60 (by decide) (fun c_10 => ?_) (fun c_10 => ?_)
            · skip
              have c_10' : z_8.toInt < 97 := jb_lt (rfl) ((by decide)) c_10
              refine lv_iconst (v := 0) hx hb dX4_fourDigits_74 (by decide) ?_
              refine lv_istore (lv' := [(5, .int 0), (4, .int z_8), (3, .int z_8), (0, .ref r0), (1, .int v1_1), (2, .int v2_1)]) hx hb dX4_fourDigits_75 hl (by decide) rfl (fun ls hl => ?_)
              refine lv_iload hx hb dX4_fourDigits_77 (lv_at hl 0 rfl) ?_
              refine lv_if_ne (tgt := 96) hx hb dX4_fourDigits_79 (by decide) (fun c_11 => ?_) (fun c_11 => ?_)
              · skip
                exact absurd c_11 (by decide)
              · skip
                refine lv_iload_n hx hb dX4_fourDigits_82 rfl (lv_at hl 2 rfl) ?_
                refine lv_bipush (v := 48) hx hb dX4_fourDigits_83 (by decide) ?_
                refine lv_icmp_lt (tgt := 94) hx hb dX4_fourDigits_85 (by decide) (fun c_12 => ?_) (fun c_12 => ?_)
                · skip
                  have c_12' : z_8.toInt < 48 := jb_lt (rfl) ((by decide)) c_12
                  refine lv_iconst (v := (-1)) hx hb dX4_fourDigits_94 (by decide) ?_
                  rw [hQ]
                  exact W.iret (v := (-1)) hx hb hr (fun t ht hW => ⟨⟨(-1), wt_1, rfl, by first | omega | (refine ⟨?_, ?_⟩ <;> (first | omega | rfl | assumption | decide | exact Or.inl rfl | exact Or.inr rfl | (simp only; omega))), hh_1.rt (M1 := [(r0, 6, 11, .int wt_1)]) [0] rfl ht⟩, by rw [ht]; try exact hh_1.1.1, fun q h9 hq => by rw [ht]; try exact hh_1.1.2.1 q h9 hq⟩) hh_1.1.2.2 dX4_fourDigits_95
                · skip
                  have c_12' : z_8.toInt ≥ 48 := jb_lt_n (rfl) ((by decide)) c_12
                  refine lv_iload_n hx hb dX4_fourDigits_88 rfl (lv_at hl 2 rfl) ?_
                  refine lv_bipush (v := 57) hx hb dX4_fourDigits_89 (by decide) ?_
                  refine lv_icmp_le (tgt := 96) hx hb dX4_fourDigits_91 (by decide) (fun c_13 => ?_) (fun c_13 => ?_)
                  · skip
                    have c_13' : z_8.toInt ≤ 57 := jb_le (rfl) ((by decide)) c_13
                    refine lv_iload_n hx hb dX4_fourDigits_96 rfl (lv_at hl 4 rfl) ?_
                    refine lv_iconst (v := 4) hx hb dX4_fourDigits_97 (by decide) ?_
                    refine lv_ishl hx hb dX4_fourDigits_98 ?_
                    refine lv_topi (fun z_14 ez_14 => ?_)
                    refine lv_iload hx hb dX4_fourDigits_99 (lv_at hl 0 rfl) ?_
                    refine lv_if_eq (tgt := 115) hx hb dX4_fourDigits_101 (by decide) (fun c_15 => ?_) (fun c_15 => ?_)
                    · skip
                      refine lv_iload_n hx hb dX4_fourDigits_115 rfl (lv_at hl 2 rfl) ?_
                      refine lv_bipush (v := 48) hx hb dX4_fourDigits_116 (by decide) ?_
                      refine lv_isub hx hb dX4_fourDigits_118 ?_
                      refine lv_topi (fun z_16 ez_16 => ?_)
                      have hz_16 : z_16.toInt = z_8.toInt - 48 := by rw [ez_16]; exact jb_isub2 (rfl) ((by decide)) (by omega)
                      refine lv_ior hx hb dX4_fourDigits_119 ?_
                      refine lv_topi (fun z_17 ez_17 => ?_)
                      refine lv_istore_n (lv' := [(1, .int z_17), (5, .int 0), (4, .int z_8), (3, .int z_8), (0, .ref r0), (2, .int v2_1)]) hx hb dX4_fourDigits_120 rfl hl (by decide) rfl (fun ls hl => ?_)
                      refine lv_aload_n hx hb dX4_fourDigits_121 rfl (lv_at hl 4 rfl) ?_
                      refine lv_dup hx hb dX4_fourDigits_122 rfl ?_
                      refine j7_read hx hb hown hK (C := RX4) (T := TX4) (N := 12) rfl hly_6_11 hlk_47 (hh_1.at 0 rfl) dX4_fourDigits_123 ?_
                      refine lv_iconst (v := 1) hx hb dX4_fourDigits_126 (by decide) ?_
                      refine lv_iadd hx hb dX4_fourDigits_127 ?_
                      refine lv_topi (fun z_18 ez_18 => ?_)
                      have hz_18 : z_18.toInt = wt_1.toInt + 1 := by rw [ez_18]; exact jb_iadd2 (rfl) ((by decide)) (by omega)
                      refine j7_put hx hb hown hK hh_1 hB hAp hB6 (C := RX4) (T := TX4) (N := 12) rfl (by decide) hg_r0 (i := 11) (by decide) hly_6_11 rfl hlk_47 rfl (ty := .int) (v := .int z_18) (by decide +kernel) rfl rfl (⟨_, rfl, by omega, by omega⟩) rfl (L1 := [(r0, 6, 9, .ref rb), (r0, 6, 10, .int pe)]) [1, 2] rfl rfl rfl dX4_fourDigits_128 (fun H_19 locs_19 hh_19 => ?_)
                      clear hh_1
                      obtain ⟨z_20, ez_20⟩ : ∃ y : Int32, y = v2_1 + 1 := ⟨_, rfl⟩
                      refine lv_iinc (v := z_20) (lv' := [(2, .int z_20), (1, .int z_17), (5, .int 0), (4, .int z_8), (3, .int z_8), (0, .ref r0)]) hx hb dX4_fourDigits_131 hl (k := 5) rfl (by rw [ez_20]; rfl) (by decide) rfl (fun ls hl => ?_)
                      have hz_20 : z_20.toInt = v2_1.toInt + 1 := by rw [ez_20]; exact jb_iadd2 (rfl) (by decide) (by omega)
                      refine lv_goto (tgt := 4) hx hb dX4_fourDigits_134 (by decide) ?_
                      exact L4 z_17 z_20 z_18 _ _ hh_19 (by first | omega | (refine ⟨?_, ?_, ?_, ?_⟩ <;> (first | omega | rfl | assumption | decide | exact Or.inl rfl | exact Or.inr rfl | (simp only; omega)))) (by omega) _ (lv_sub hl [5, 1, 0] rfl)
                    · skip
                      exact absurd c_15 (by decide)
                  · skip
                    have c_13' : z_8.toInt > 57 := jb_le_n (rfl) ((by decide)) c_13
                    refine lv_iconst (v := (-1)) hx hb dX4_fourDigits_94 (by decide) ?_
                    rw [hQ]
                    exact W.iret (v := (-1)) hx hb hr (fun t ht hW => ⟨⟨(-1), wt_1, rfl, by first | omega | (refine ⟨?_, ?_⟩ <;> (first | omega | rfl | assumption | decide | exact Or.inl rfl | exact Or.inr rfl | (simp only; omega))), hh_1.rt (M1 := [(r0, 6, 11, .int wt_1)]) [0] rfl ht⟩, by rw [ht]; try exact hh_1.1.1, fun q h9 hq => by rw [ht]; try exact hh_1.1.2.1 q h9 hq⟩) hh_1.1.2.2 dX4_fourDigits_95
            · skip
              have c_10' : z_8.toInt ≥ 97 := jb_lt_n (rfl) ((by decide)) c_10
              refine lv_iload hx hb dX4_fourDigits_63 (lv_at hl 0 rfl) ?_
              refine lv_bipush (v := 102) hx hb dX4_fourDigits_65 (by decide) ?_
              refine lv_icmp_gt (tgt := 74) hx hb dX4_fourDigits_67 (by decide) (fun c_21 => ?_) (fun c_21 => ?_)
              · skip
                have c_21' : z_8.toInt > 102 := jb_gt (rfl) ((by decide)) c_21
                refine lv_iconst (v := 0) hx hb dX4_fourDigits_74 (by decide) ?_
                refine lv_istore (lv' := [(5, .int 0), (4, .int z_8), (3, .int z_8), (0, .ref r0), (1, .int v1_1), (2, .int v2_1)]) hx hb dX4_fourDigits_75 hl (by decide) rfl (fun ls hl => ?_)
                refine lv_iload hx hb dX4_fourDigits_77 (lv_at hl 0 rfl) ?_
                refine lv_if_ne (tgt := 96) hx hb dX4_fourDigits_79 (by decide) (fun c_22 => ?_) (fun c_22 => ?_)
                · skip
                  exact absurd c_22 (by decide)
                · skip
                  refine lv_iload_n hx hb dX4_fourDigits_82 rfl (lv_at hl 2 rfl) ?_
                  refine lv_bipush (v := 48) hx hb dX4_fourDigits_83 (by decide) ?_
                  refine lv_icmp_lt (tgt := 94) hx hb dX4_fourDigits_85 (by decide) (fun c_23 => ?_) (fun c_23 => ?_)
                  · skip
                    have c_23' : z_8.toInt < 48 := jb_lt (rfl) ((by decide)) c_23
                    refine lv_iconst (v := (-1)) hx hb dX4_fourDigits_94 (by decide) ?_
                    rw [hQ]
                    exact W.iret (v := (-1)) hx hb hr (fun t ht hW => ⟨⟨(-1), wt_1, rfl, by first | omega | (refine ⟨?_, ?_⟩ <;> (first | omega | rfl | assumption | decide | exact Or.inl rfl | exact Or.inr rfl | (simp only; omega))), hh_1.rt (M1 := [(r0, 6, 11, .int wt_1)]) [0] rfl ht⟩, by rw [ht]; try exact hh_1.1.1, fun q h9 hq => by rw [ht]; try exact hh_1.1.2.1 q h9 hq⟩) hh_1.1.2.2 dX4_fourDigits_95
                  · skip
                    have c_23' : z_8.toInt ≥ 48 := jb_lt_n (rfl) ((by decide)) c_23
                    refine lv_iload_n hx hb dX4_fourDigits_88 rfl (lv_at hl 2 rfl) ?_
                    refine lv_bipush (v := 57) hx hb dX4_fourDigits_89 (by decide) ?_
                    refine lv_icmp_le (tgt := 96) hx hb dX4_fourDigits_91 (by decide) (fun c_24 => ?_) (fun c_24 => ?_)
                    · skip
                      have c_24' : z_8.toInt ≤ 57 := jb_le (rfl) ((by decide)) c_24
                      refine lv_iload_n hx hb dX4_fourDigits_96 rfl (lv_at hl 4 rfl) ?_
                      refine lv_iconst (v := 4) hx hb dX4_fourDigits_97 (by decide) ?_
                      refine lv_ishl hx hb dX4_fourDigits_98 ?_
                      refine lv_topi (fun z_25 ez_25 => ?_)
                      refine lv_iload hx hb dX4_fourDigits_99 (lv_at hl 0 rfl) ?_
                      refine lv_if_eq (tgt := 115) hx hb dX4_fourDigits_101 (by decide) (fun c_26 => ?_) (fun c_26 => ?_)
                      · skip
                        refine lv_iload_n hx hb dX4_fourDigits_115 rfl (lv_at hl 2 rfl) ?_
                        refine lv_bipush (v := 48) hx hb dX4_fourDigits_116 (by decide) ?_
                        refine lv_isub hx hb dX4_fourDigits_118 ?_
                        refine lv_topi (fun z_27 ez_27 => ?_)
                        have hz_27 : z_27.toInt = z_8.toInt - 48 := by rw [ez_27]; exact jb_isub2 (rfl) ((by decide)) (by omega)
                        refine lv_ior hx hb dX4_fourDigits_119 ?_
                        refine lv_topi (fun z_28 ez_28 => ?_)
                        refine lv_istore_n (lv' := [(1, .int z_28), (5, .int 0), (4, .int z_8), (3, .int z_8), (0, .ref r0), (2, .int v2_1)]) hx hb dX4_fourDigits_120 rfl hl (by decide) rfl (fun ls hl => ?_)
                        refine lv_aload_n hx hb dX4_fourDigits_121 rfl (lv_at hl 4 rfl) ?_
                        refine lv_dup hx hb dX4_fourDigits_122 rfl ?_
                        refine j7_read hx hb hown hK (C := RX4) (T := TX4) (N := 12) rfl hly_6_11 hlk_47 (hh_1.at 0 rfl) dX4_fourDigits_123 ?_
                        refine lv_iconst (v := 1) hx hb dX4_fourDigits_126 (by decide) ?_
                        refine lv_iadd hx hb dX4_fourDigits_127 ?_
                        refine lv_topi (fun z_29 ez_29 => ?_)
                        have hz_29 : z_29.toInt = wt_1.toInt + 1 := by rw [ez_29]; exact jb_iadd2 (rfl) ((by decide)) (by omega)
                        refine j7_put hx hb hown hK hh_1 hB hAp hB6 (C := RX4) (T := TX4) (N := 12) rfl (by decide) hg_r0 (i := 11) (by decide) hly_6_11 rfl hlk_47 rfl (ty := .int) (v := .int z_29) (by decide +kernel) rfl rfl (⟨_, rfl, by omega, by omega⟩) rfl (L1 := [(r0, 6, 9, .ref rb), (r0, 6, 10, .int pe)]) [1, 2] rfl rfl rfl dX4_fourDigits_128 (fun H_30 locs_30 hh_30 => ?_)
                        clear hh_1
                        obtain ⟨z_31, ez_31⟩ : ∃ y : Int32, y = v2_1 + 1 := ⟨_, rfl⟩
                        refine lv_iinc (v := z_31) (lv' := [(2, .int z_31), (1, .int z_28), (5, .int 0), (4, .int z_8), (3, .int z_8), (0, .ref r0)]) hx hb dX4_fourDigits_131 hl (k := 5) rfl (by rw [ez_31]; rfl) (by decide) rfl (fun ls hl => ?_)
                        have hz_31 : z_31.toInt = v2_1.toInt + 1 := by rw [ez_31]; exact jb_iadd2 (rfl) (by decide) (by omega)
                        refine lv_goto (tgt := 4) hx hb dX4_fourDigits_134 (by decide) ?_
                        exact L4 z_28 z_31 z_29 _ _ hh_30 (by first | omega | (refine ⟨?_, ?_, ?_, ?_⟩ <;> (first | omega | rfl | assumption | decide | exact Or.inl rfl | exact Or.inr rfl | (simp only; omega)))) (by omega) _ (lv_sub hl [5, 1, 0] rfl)
                      · skip
                        exact absurd c_26 (by decide)
                    · skip
                      have c_24' : z_8.toInt > 57 := jb_le_n (rfl) ((by decide)) c_24
                      refine lv_iconst (v := (-1)) hx hb dX4_fourDigits_94 (by decide) ?_
                      rw [hQ]
                      exact W.iret (v := (-1)) hx hb hr (fun t ht hW => ⟨⟨(-1), wt_1, rfl, by first | omega | (refine ⟨?_, ?_⟩ <;> (first | omega | rfl | assumption | decide | exact Or.inl rfl | exact Or.inr rfl | (simp only; omega))), hh_1.rt (M1 := [(r0, 6, 11, .int wt_1)]) [0] rfl ht⟩, by rw [ht]; try exact hh_1.1.1, fun q h9 hq => by rw [ht]; try exact hh_1.1.2.1 q h9 hq⟩) hh_1.1.2.2 dX4_fourDigits_95
              · skip
                have c_21' : z_8.toInt ≤ 102 := jb_gt_n (rfl) ((by decide)) c_21
                refine lv_iconst (v := 1) hx hb dX4_fourDigits_70 (by decide) ?_
                refine lv_goto (tgt := 75) hx hb dX4_fourDigits_71 (by decide) ?_
                refine lv_istore (lv' := [(5, .int 1), (4, .int z_8), (3, .int z_8), (0, .ref r0), (1, .int v1_1), (2, .int v2_1)]) hx hb dX4_fourDigits_75 hl (by decide) rfl (fun ls hl => ?_)
                refine lv_iload hx hb dX4_fourDigits_77 (lv_at hl 0 rfl) ?_
                refine lv_if_ne (tgt := 96) hx hb dX4_fourDigits_79 (by decide) (fun c_32 => ?_) (fun c_32 => ?_)
                · skip
                  refine lv_iload_n hx hb dX4_fourDigits_96 rfl (lv_at hl 4 rfl) ?_
                  refine lv_iconst (v := 4) hx hb dX4_fourDigits_97 (by decide) ?_
                  refine lv_ishl hx hb dX4_fourDigits_98 ?_
                  refine lv_topi (fun z_33 ez_33 => ?_)
                  refine lv_iload hx hb dX4_fourDigits_99 (lv_at hl 0 rfl) ?_
                  refine lv_if_eq (tgt := 115) hx hb dX4_fourDigits_101 (by decide) (fun c_34 => ?_) (fun c_34 => ?_)
                  · skip
                    exact absurd c_34 (by decide)
                  · skip
                    refine lv_iload hx hb dX4_fourDigits_104 (lv_at hl 1 rfl) ?_
                    refine lv_bipush (v := 97) hx hb dX4_fourDigits_106 (by decide) ?_
                    refine lv_isub hx hb dX4_fourDigits_108 ?_
                    refine lv_topi (fun z_35 ez_35 => ?_)
                    have hz_35 : z_35.toInt = z_8.toInt - 97 := by rw [ez_35]; exact jb_isub2 (rfl) ((by decide)) (by omega)
                    refine lv_bipush (v := 10) hx hb dX4_fourDigits_109 (by decide) ?_
                    refine lv_iadd hx hb dX4_fourDigits_111 ?_
                    refine lv_topi (fun z_36 ez_36 => ?_)
                    have hz_36 : z_36.toInt = z_35.toInt + 10 := by rw [ez_36]; exact jb_iadd2 (rfl) ((by decide)) (by omega)
                    refine lv_goto (tgt := 119) hx hb dX4_fourDigits_112 (by decide) ?_
                    refine lv_ior hx hb dX4_fourDigits_119 ?_
                    refine lv_topi (fun z_37 ez_37 => ?_)
                    refine lv_istore_n (lv' := [(1, .int z_37), (5, .int 1), (4, .int z_8), (3, .int z_8), (0, .ref r0), (2, .int v2_1)]) hx hb dX4_fourDigits_120 rfl hl (by decide) rfl (fun ls hl => ?_)
                    refine lv_aload_n hx hb dX4_fourDigits_121 rfl (lv_at hl 4 rfl) ?_
                    refine lv_dup hx hb dX4_fourDigits_122 rfl ?_
                    refine j7_read hx hb hown hK (C := RX4) (T := TX4) (N := 12) rfl hly_6_11 hlk_47 (hh_1.at 0 rfl) dX4_fourDigits_123 ?_
                    refine lv_iconst (v := 1) hx hb dX4_fourDigits_126 (by decide) ?_
                    refine lv_iadd hx hb dX4_fourDigits_127 ?_
                    refine lv_topi (fun z_38 ez_38 => ?_)
                    have hz_38 : z_38.toInt = wt_1.toInt + 1 := by rw [ez_38]; exact jb_iadd2 (rfl) ((by decide)) (by omega)
                    refine j7_put hx hb hown hK hh_1 hB hAp hB6 (C := RX4) (T := TX4) (N := 12) rfl (by decide) hg_r0 (i := 11) (by decide) hly_6_11 rfl hlk_47 rfl (ty := .int) (v := .int z_38) (by decide +kernel) rfl rfl (⟨_, rfl, by omega, by omega⟩) rfl (L1 := [(r0, 6, 9, .ref rb), (r0, 6, 10, .int pe)]) [1, 2] rfl rfl rfl dX4_fourDigits_128 (fun H_39 locs_39 hh_39 => ?_)
                    clear hh_1
                    obtain ⟨z_40, ez_40⟩ : ∃ y : Int32, y = v2_1 + 1 := ⟨_, rfl⟩
                    refine lv_iinc (v := z_40) (lv' := [(2, .int z_40), (1, .int z_37), (5, .int 1), (4, .int z_8), (3, .int z_8), (0, .ref r0)]) hx hb dX4_fourDigits_131 hl (k := 5) rfl (by rw [ez_40]; rfl) (by decide) rfl (fun ls hl => ?_)
                    have hz_40 : z_40.toInt = v2_1.toInt + 1 := by rw [ez_40]; exact jb_iadd2 (rfl) (by decide) (by omega)
                    refine lv_goto (tgt := 4) hx hb dX4_fourDigits_134 (by decide) ?_
                    exact L4 z_37 z_40 z_38 _ _ hh_39 (by first | omega | (refine ⟨?_, ?_, ?_, ?_⟩ <;> (first | omega | rfl | assumption | decide | exact Or.inl rfl | exact Or.inr rfl | (simp only; omega)))) (by omega) _ (lv_sub hl [5, 1, 0] rfl)
                · skip
                  exact absurd c_32 (by decide)
          · skip
            have c_9' : z_8.toInt ≥ 65 := jb_lt_n (rfl) ((by decide)) c_9
            refine lv_iload_n hx hb dX4_fourDigits_40 rfl (lv_at hl 0 rfl) ?_
            refine lv_bipush (v := 70) hx hb dX4_fourDigits_41 (by decide) ?_
            refine lv_icmp_gt (tgt := 53) hx hb dX4_fourDigits_43 (by decide) (fun c_41 => ?_) (fun c_41 => ?_)
            · skip
              have c_41' : z_8.toInt > 70 := jb_gt (rfl) ((by decide)) c_41
              refine lv_iload_n hx hb dX4_fourDigits_53 rfl (lv_at hl 0 rfl) ?_
              refine lv_istore (lv' := [(4, .int z_8), (3, .int z_8), (0, .ref r0), (1, .int v1_1), (2, .int v2_1)]) hx hb dX4_fourDigits_54 hl (by decide) rfl (fun ls hl => ?_)
              refine lv_iload hx hb dX4_fourDigits_56 (lv_at hl 0 rfl) ?_
              refine lv_bipush (v := 97) hx hb dX4_fourDigits_58 (by decide) ?_
              refine lv_icmp_lt (tgt := 74) hx hb dX4_fourDigits_60 (by decide) (fun c_42 => ?_) (fun c_42 => ?_)
              · skip
                have c_42' : z_8.toInt < 97 := jb_lt (rfl) ((by decide)) c_42
                refine lv_iconst (v := 0) hx hb dX4_fourDigits_74 (by decide) ?_
                refine lv_istore (lv' := [(5, .int 0), (4, .int z_8), (3, .int z_8), (0, .ref r0), (1, .int v1_1), (2, .int v2_1)]) hx hb dX4_fourDigits_75 hl (by decide) rfl (fun ls hl => ?_)
                refine lv_iload hx hb dX4_fourDigits_77 (lv_at hl 0 rfl) ?_
                refine lv_if_ne (tgt := 96) hx hb dX4_fourDigits_79 (by decide) (fun c_43 => ?_) (fun c_43 => ?_)
                · skip
                  exact absurd c_43 (by decide)
                · skip
                  refine lv_iload_n hx hb dX4_fourDigits_82 rfl (lv_at hl 2 rfl) ?_
                  refine lv_bipush (v := 48) hx hb dX4_fourDigits_83 (by decide) ?_
                  refine lv_icmp_lt (tgt := 94) hx hb dX4_fourDigits_85 (by decide) (fun c_44 => ?_) (fun c_44 => ?_)
                  · skip
                    have c_44' : z_8.toInt < 48 := jb_lt (rfl) ((by decide)) c_44
                    refine lv_iconst (v := (-1)) hx hb dX4_fourDigits_94 (by decide) ?_
                    rw [hQ]
                    exact W.iret (v := (-1)) hx hb hr (fun t ht hW => ⟨⟨(-1), wt_1, rfl, by first | omega | (refine ⟨?_, ?_⟩ <;> (first | omega | rfl | assumption | decide | exact Or.inl rfl | exact Or.inr rfl | (simp only; omega))), hh_1.rt (M1 := [(r0, 6, 11, .int wt_1)]) [0] rfl ht⟩, by rw [ht]; try exact hh_1.1.1, fun q h9 hq => by rw [ht]; try exact hh_1.1.2.1 q h9 hq⟩) hh_1.1.2.2 dX4_fourDigits_95
                  · skip
                    have c_44' : z_8.toInt ≥ 48 := jb_lt_n (rfl) ((by decide)) c_44
                    refine lv_iload_n hx hb dX4_fourDigits_88 rfl (lv_at hl 2 rfl) ?_
                    refine lv_bipush (v := 57) hx hb dX4_fourDigits_89 (by decide) ?_
                    refine lv_icmp_le (tgt := 96) hx hb dX4_fourDigits_91 (by decide) (fun c_45 => ?_) (fun c_45 => ?_)
                    · skip
                      have c_45' : z_8.toInt ≤ 57 := jb_le (rfl) ((by decide)) c_45
                      refine lv_iload_n hx hb dX4_fourDigits_96 rfl (lv_at hl 4 rfl) ?_
                      refine lv_iconst (v := 4) hx hb dX4_fourDigits_97 (by decide) ?_
                      refine lv_ishl hx hb dX4_fourDigits_98 ?_
                      refine lv_topi (fun z_46 ez_46 => ?_)
                      refine lv_iload hx hb dX4_fourDigits_99 (lv_at hl 0 rfl) ?_
                      refine lv_if_eq (tgt := 115) hx hb dX4_fourDigits_101 (by decide) (fun c_47 => ?_) (fun c_47 => ?_)
                      · skip
                        refine lv_iload_n hx hb dX4_fourDigits_115 rfl (lv_at hl 2 rfl) ?_
                        refine lv_bipush (v := 48) hx hb dX4_fourDigits_116 (by decide) ?_
                        refine lv_isub hx hb dX4_fourDigits_118 ?_
                        refine lv_topi (fun z_48 ez_48 => ?_)
                        have hz_48 : z_48.toInt = z_8.toInt - 48 := by rw [ez_48]; exact jb_isub2 (rfl) ((by decide)) (by omega)
                        refine lv_ior hx hb dX4_fourDigits_119 ?_
                        refine lv_topi (fun z_49 ez_49 => ?_)
                        refine lv_istore_n (lv' := [(1, .int z_49), (5, .int 0), (4, .int z_8), (3, .int z_8), (0, .ref r0), (2, .int v2_1)]) hx hb dX4_fourDigits_120 rfl hl (by decide) rfl (fun ls hl => ?_)
                        refine lv_aload_n hx hb dX4_fourDigits_121 rfl (lv_at hl 4 rfl) ?_
                        refine lv_dup hx hb dX4_fourDigits_122 rfl ?_
                        refine j7_read hx hb hown hK (C := RX4) (T := TX4) (N := 12) rfl hly_6_11 hlk_47 (hh_1.at 0 rfl) dX4_fourDigits_123 ?_
                        refine lv_iconst (v := 1) hx hb dX4_fourDigits_126 (by decide) ?_
                        refine lv_iadd hx hb dX4_fourDigits_127 ?_
                        refine lv_topi (fun z_50 ez_50 => ?_)
                        have hz_50 : z_50.toInt = wt_1.toInt + 1 := by rw [ez_50]; exact jb_iadd2 (rfl) ((by decide)) (by omega)
                        refine j7_put hx hb hown hK hh_1 hB hAp hB6 (C := RX4) (T := TX4) (N := 12) rfl (by decide) hg_r0 (i := 11) (by decide) hly_6_11 rfl hlk_47 rfl (ty := .int) (v := .int z_50) (by decide +kernel) rfl rfl (⟨_, rfl, by omega, by omega⟩) rfl (L1 := [(r0, 6, 9, .ref rb), (r0, 6, 10, .int pe)]) [1, 2] rfl rfl rfl dX4_fourDigits_128 (fun H_51 locs_51 hh_51 => ?_)
                        clear hh_1
                        obtain ⟨z_52, ez_52⟩ : ∃ y : Int32, y = v2_1 + 1 := ⟨_, rfl⟩
                        refine lv_iinc (v := z_52) (lv' := [(2, .int z_52), (1, .int z_49), (5, .int 0), (4, .int z_8), (3, .int z_8), (0, .ref r0)]) hx hb dX4_fourDigits_131 hl (k := 5) rfl (by rw [ez_52]; rfl) (by decide) rfl (fun ls hl => ?_)
                        have hz_52 : z_52.toInt = v2_1.toInt + 1 := by rw [ez_52]; exact jb_iadd2 (rfl) (by decide) (by omega)
                        refine lv_goto (tgt := 4) hx hb dX4_fourDigits_134 (by decide) ?_
                        exact L4 z_49 z_52 z_50 _ _ hh_51 (by first | omega | (refine ⟨?_, ?_, ?_, ?_⟩ <;> (first | omega | rfl | assumption | decide | exact Or.inl rfl | exact Or.inr rfl | (simp only; omega)))) (by omega) _ (lv_sub hl [5, 1, 0] rfl)
                      · skip
                        exact absurd c_47 (by decide)
                    · skip
                      have c_45' : z_8.toInt > 57 := jb_le_n (rfl) ((by decide)) c_45
                      refine lv_iconst (v := (-1)) hx hb dX4_fourDigits_94 (by decide) ?_
                      rw [hQ]
                      exact W.iret (v := (-1)) hx hb hr (fun t ht hW => ⟨⟨(-1), wt_1, rfl, by first | omega | (refine ⟨?_, ?_⟩ <;> (first | omega | rfl | assumption | decide | exact Or.inl rfl | exact Or.inr rfl | (simp only; omega))), hh_1.rt (M1 := [(r0, 6, 11, .int wt_1)]) [0] rfl ht⟩, by rw [ht]; try exact hh_1.1.1, fun q h9 hq => by rw [ht]; try exact hh_1.1.2.1 q h9 hq⟩) hh_1.1.2.2 dX4_fourDigits_95
              · skip
                have c_42' : z_8.toInt ≥ 97 := jb_lt_n (rfl) ((by decide)) c_42
                refine lv_iload hx hb dX4_fourDigits_63 (lv_at hl 0 rfl) ?_
                refine lv_bipush (v := 102) hx hb dX4_fourDigits_65 (by decide) ?_
                refine lv_icmp_gt (tgt := 74) hx hb dX4_fourDigits_67 (by decide) (fun c_53 => ?_) (fun c_53 => ?_)
                · skip
                  have c_53' : z_8.toInt > 102 := jb_gt (rfl) ((by decide)) c_53
                  refine lv_iconst (v := 0) hx hb dX4_fourDigits_74 (by decide) ?_
                  refine lv_istore (lv' := [(5, .int 0), (4, .int z_8), (3, .int z_8), (0, .ref r0), (1, .int v1_1), (2, .int v2_1)]) hx hb dX4_fourDigits_75 hl (by decide) rfl (fun ls hl => ?_)
                  refine lv_iload hx hb dX4_fourDigits_77 (lv_at hl 0 rfl) ?_
                  refine lv_if_ne (tgt := 96) hx hb dX4_fourDigits_79 (by decide) (fun c_54 => ?_) (fun c_54 => ?_)
                  · skip
                    exact absurd c_54 (by decide)
                  · skip
                    refine lv_iload_n hx hb dX4_fourDigits_82 rfl (lv_at hl 2 rfl) ?_
                    refine lv_bipush (v := 48) hx hb dX4_fourDigits_83 (by decide) ?_
                    refine lv_icmp_lt (tgt := 94) hx hb dX4_fourDigits_85 (by decide) (fun c_55 => ?_) (fun c_55 => ?_)
                    · skip
                      have c_55' : z_8.toInt < 48 := jb_lt (rfl) ((by decide)) c_55
                      refine lv_iconst (v := (-1)) hx hb dX4_fourDigits_94 (by decide) ?_
                      rw [hQ]
                      exact W.iret (v := (-1)) hx hb hr (fun t ht hW => ⟨⟨(-1), wt_1, rfl, by first | omega | (refine ⟨?_, ?_⟩ <;> (first | omega | rfl | assumption | decide | exact Or.inl rfl | exact Or.inr rfl | (simp only; omega))), hh_1.rt (M1 := [(r0, 6, 11, .int wt_1)]) [0] rfl ht⟩, by rw [ht]; try exact hh_1.1.1, fun q h9 hq => by rw [ht]; try exact hh_1.1.2.1 q h9 hq⟩) hh_1.1.2.2 dX4_fourDigits_95
                    · skip
                      have c_55' : z_8.toInt ≥ 48 := jb_lt_n (rfl) ((by decide)) c_55
                      refine lv_iload_n hx hb dX4_fourDigits_88 rfl (lv_at hl 2 rfl) ?_
                      refine lv_bipush (v := 57) hx hb dX4_fourDigits_89 (by decide) ?_
                      refine lv_icmp_le (tgt := 96) hx hb dX4_fourDigits_91 (by decide) (fun c_56 => ?_) (fun c_56 => ?_)
                      · skip
                        have c_56' : z_8.toInt ≤ 57 := jb_le (rfl) ((by decide)) c_56
                        refine lv_iload_n hx hb dX4_fourDigits_96 rfl (lv_at hl 4 rfl) ?_
                        refine lv_iconst (v := 4) hx hb dX4_fourDigits_97 (by decide) ?_
                        refine lv_ishl hx hb dX4_fourDigits_98 ?_
                        refine lv_topi (fun z_57 ez_57 => ?_)
                        refine lv_iload hx hb dX4_fourDigits_99 (lv_at hl 0 rfl) ?_
                        refine lv_if_eq (tgt := 115) hx hb dX4_fourDigits_101 (by decide) (fun c_58 => ?_) (fun c_58 => ?_)
                        · skip
                          refine lv_iload_n hx hb dX4_fourDigits_115 rfl (lv_at hl 2 rfl) ?_
                          refine lv_bipush (v := 48) hx hb dX4_fourDigits_116 (by decide) ?_
                          refine lv_isub hx hb dX4_fourDigits_118 ?_
                          refine lv_topi (fun z_59 ez_59 => ?_)
                          have hz_59 : z_59.toInt = z_8.toInt - 48 := by rw [ez_59]; exact jb_isub2 (rfl) ((by decide)) (by omega)
                          refine lv_ior hx hb dX4_fourDigits_119 ?_
                          refine lv_topi (fun z_60 ez_60 => ?_)
                          refine lv_istore_n (lv' := [(1, .int z_60), (5, .int 0), (4, .int z_8), (3, .int z_8), (0, .ref r0), (2, .int v2_1)]) hx hb dX4_fourDigits_120 rfl hl (by decide) rfl (fun ls hl => ?_)
                          refine lv_aload_n hx hb dX4_fourDigits_121 rfl (lv_at hl 4 rfl) ?_
                          refine lv_dup hx hb dX4_fourDigits_122 rfl ?_
                          refine j7_read hx hb hown hK (C := RX4) (T := TX4) (N := 12) rfl hly_6_11 hlk_47 (hh_1.at 0 rfl) dX4_fourDigits_123 ?_
                          refine lv_iconst (v := 1) hx hb dX4_fourDigits_126 (by decide) ?_
                          refine lv_iadd hx hb dX4_fourDigits_127 ?_
                          refine lv_topi (fun z_61 ez_61 => ?_)
                          have hz_61 : z_61.toInt = wt_1.toInt + 1 := by rw [ez_61]; exact jb_iadd2 (rfl) ((by decide)) (by omega)
                          refine j7_put hx hb hown hK hh_1 hB hAp hB6 (C := RX4) (T := TX4) (N := 12) rfl (by decide) hg_r0 (i := 11) (by decide) hly_6_11 rfl hlk_47 rfl (ty := .int) (v := .int z_61) (by decide +kernel) rfl rfl (⟨_, rfl, by omega, by omega⟩) rfl (L1 := [(r0, 6, 9, .ref rb), (r0, 6, 10, .int pe)]) [1, 2] rfl rfl rfl dX4_fourDigits_128 (fun H_62 locs_62 hh_62 => ?_)
                          clear hh_1
                          obtain ⟨z_63, ez_63⟩ : ∃ y : Int32, y = v2_1 + 1 := ⟨_, rfl⟩
                          refine lv_iinc (v := z_63) (lv' := [(2, .int z_63), (1, .int z_60), (5, .int 0), (4, .int z_8), (3, .int z_8), (0, .ref r0)]) hx hb dX4_fourDigits_131 hl (k := 5) rfl (by rw [ez_63]; rfl) (by decide) rfl (fun ls hl => ?_)
                          have hz_63 : z_63.toInt = v2_1.toInt + 1 := by rw [ez_63]; exact jb_iadd2 (rfl) (by decide) (by omega)
                          refine lv_goto (tgt := 4) hx hb dX4_fourDigits_134 (by decide) ?_
                          exact L4 z_60 z_63 z_61 _ _ hh_62 (by first | omega | (refine ⟨?_, ?_, ?_, ?_⟩ <;> (first | omega | rfl | assumption | decide | exact Or.inl rfl | exact Or.inr rfl | (simp only; omega)))) (by omega) _ (lv_sub hl [5, 1, 0] rfl)
                        · skip
                          exact absurd c_58 (by decide)
                      · skip
                        have c_56' : z_8.toInt > 57 := jb_le_n (rfl) ((by decide)) c_56
                        refine lv_iconst (v := (-1)) hx hb dX4_fourDigits_94 (by decide) ?_
                        rw [hQ]
                        exact W.iret (v := (-1)) hx hb hr (fun t ht hW => ⟨⟨(-1), wt_1, rfl, by first | omega | (refine ⟨?_, ?_⟩ <;> (first | omega | rfl | assumption | decide | exact Or.inl rfl | exact Or.inr rfl | (simp only; omega))), hh_1.rt (M1 := [(r0, 6, 11, .int wt_1)]) [0] rfl ht⟩, by rw [ht]; try exact hh_1.1.1, fun q h9 hq => by rw [ht]; try exact hh_1.1.2.1 q h9 hq⟩) hh_1.1.2.2 dX4_fourDigits_95
                · skip
                  have c_53' : z_8.toInt ≤ 102 := jb_gt_n (rfl) ((by decide)) c_53
                  refine lv_iconst (v := 1) hx hb dX4_fourDigits_70 (by decide) ?_
                  refine lv_goto (tgt := 75) hx hb dX4_fourDigits_71 (by decide) ?_
                  refine lv_istore (lv' := [(5, .int 1), (4, .int z_8), (3, .int z_8), (0, .ref r0), (1, .int v1_1), (2, .int v2_1)]) hx hb dX4_fourDigits_75 hl (by decide) rfl (fun ls hl => ?_)
                  refine lv_iload hx hb dX4_fourDigits_77 (lv_at hl 0 rfl) ?_
                  refine lv_if_ne (tgt := 96) hx hb dX4_fourDigits_79 (by decide) (fun c_64 => ?_) (fun c_64 => ?_)
                  · skip
                    refine lv_iload_n hx hb dX4_fourDigits_96 rfl (lv_at hl 4 rfl) ?_
                    refine lv_iconst (v := 4) hx hb dX4_fourDigits_97 (by decide) ?_
                    refine lv_ishl hx hb dX4_fourDigits_98 ?_
                    refine lv_topi (fun z_65 ez_65 => ?_)
                    refine lv_iload hx hb dX4_fourDigits_99 (lv_at hl 0 rfl) ?_
                    refine lv_if_eq (tgt := 115) hx hb dX4_fourDigits_101 (by decide) (fun c_66 => ?_) (fun c_66 => ?_)
                    · skip
                      exact absurd c_66 (by decide)
                    · skip
                      refine lv_iload hx hb dX4_fourDigits_104 (lv_at hl 1 rfl) ?_
                      refine lv_bipush (v := 97) hx hb dX4_fourDigits_106 (by decide) ?_
                      refine lv_isub hx hb dX4_fourDigits_108 ?_
                      refine lv_topi (fun z_67 ez_67 => ?_)
                      have hz_67 : z_67.toInt = z_8.toInt - 97 := by rw [ez_67]; exact jb_isub2 (rfl) ((by decide)) (by omega)
                      refine lv_bipush (v := 10) hx hb dX4_fourDigits_109 (by decide) ?_
                      refine lv_iadd hx hb dX4_fourDigits_111 ?_
                      refine lv_topi (fun z_68 ez_68 => ?_)
                      have hz_68 : z_68.toInt = z_67.toInt + 10 := by rw [ez_68]; exact jb_iadd2 (rfl) ((by decide)) (by omega)
                      refine lv_goto (tgt := 119) hx hb dX4_fourDigits_112 (by decide) ?_
                      refine lv_ior hx hb dX4_fourDigits_119 ?_
                      refine lv_topi (fun z_69 ez_69 => ?_)
                      refine lv_istore_n (lv' := [(1, .int z_69), (5, .int 1), (4, .int z_8), (3, .int z_8), (0, .ref r0), (2, .int v2_1)]) hx hb dX4_fourDigits_120 rfl hl (by decide) rfl (fun ls hl => ?_)
                      refine lv_aload_n hx hb dX4_fourDigits_121 rfl (lv_at hl 4 rfl) ?_
                      refine lv_dup hx hb dX4_fourDigits_122 rfl ?_
                      refine j7_read hx hb hown hK (C := RX4) (T := TX4) (N := 12) rfl hly_6_11 hlk_47 (hh_1.at 0 rfl) dX4_fourDigits_123 ?_
                      refine lv_iconst (v := 1) hx hb dX4_fourDigits_126 (by decide) ?_
                      refine lv_iadd hx hb dX4_fourDigits_127 ?_
                      refine lv_topi (fun z_70 ez_70 => ?_)
                      have hz_70 : z_70.toInt = wt_1.toInt + 1 := by rw [ez_70]; exact jb_iadd2 (rfl) ((by decide)) (by omega)
                      refine j7_put hx hb hown hK hh_1 hB hAp hB6 (C := RX4) (T := TX4) (N := 12) rfl (by decide) hg_r0 (i := 11) (by decide) hly_6_11 rfl hlk_47 rfl (ty := .int) (v := .int z_70) (by decide +kernel) rfl rfl (⟨_, rfl, by omega, by omega⟩) rfl (L1 := [(r0, 6, 9, .ref rb), (r0, 6, 10, .int pe)]) [1, 2] rfl rfl rfl dX4_fourDigits_128 (fun H_71 locs_71 hh_71 => ?_)
                      clear hh_1
                      obtain ⟨z_72, ez_72⟩ : ∃ y : Int32, y = v2_1 + 1 := ⟨_, rfl⟩
                      refine lv_iinc (v := z_72) (lv' := [(2, .int z_72), (1, .int z_69), (5, .int 1), (4, .int z_8), (3, .int z_8), (0, .ref r0)]) hx hb dX4_fourDigits_131 hl (k := 5) rfl (by rw [ez_72]; rfl) (by decide) rfl (fun ls hl => ?_)
                      have hz_72 : z_72.toInt = v2_1.toInt + 1 := by rw [ez_72]; exact jb_iadd2 (rfl) (by decide) (by omega)
                      refine lv_goto (tgt := 4) hx hb dX4_fourDigits_134 (by decide) ?_
                      exact L4 z_69 z_72 z_70 _ _ hh_71 (by first | omega | (refine ⟨?_, ?_, ?_, ?_⟩ <;> (first | omega | rfl | assumption | decide | exact Or.inl rfl | exact Or.inr rfl | (simp only; omega)))) (by omega) _ (lv_sub hl [5, 1, 0] rfl)
                  · skip
                    exact absurd c_64 (by decide)
            · skip
              have c_41' : z_8.toInt ≤ 70 := jb_gt_n (rfl) ((by decide)) c_41
              refine lv_iload_n hx hb dX4_fourDigits_46 rfl (lv_at hl 0 rfl) ?_
              refine lv_bipush (v := 32) hx hb dX4_fourDigits_47 (by decide) ?_
              refine lv_iadd hx hb dX4_fourDigits_49 ?_
              refine lv_topi (fun z_73 ez_73 => ?_)
              have hz_73 : z_73.toInt = z_8.toInt + 32 := by rw [ez_73]; exact jb_iadd2 (rfl) ((by decide)) (by omega)
              refine lv_goto (tgt := 54) hx hb dX4_fourDigits_50 (by decide) ?_
              refine lv_istore (lv' := [(4, .int z_73), (3, .int z_8), (0, .ref r0), (1, .int v1_1), (2, .int v2_1)]) hx hb dX4_fourDigits_54 hl (by decide) rfl (fun ls hl => ?_)
              refine lv_iload hx hb dX4_fourDigits_56 (lv_at hl 0 rfl) ?_
              refine lv_bipush (v := 97) hx hb dX4_fourDigits_58 (by decide) ?_
              refine lv_icmp_lt (tgt := 74) hx hb dX4_fourDigits_60 (by decide) (fun c_74 => ?_) (fun c_74 => ?_)
              · skip
                have c_74' : z_73.toInt < 97 := jb_lt (rfl) ((by decide)) c_74
                refine lv_iconst (v := 0) hx hb dX4_fourDigits_74 (by decide) ?_
                refine lv_istore (lv' := [(5, .int 0), (4, .int z_73), (3, .int z_8), (0, .ref r0), (1, .int v1_1), (2, .int v2_1)]) hx hb dX4_fourDigits_75 hl (by decide) rfl (fun ls hl => ?_)
                refine lv_iload hx hb dX4_fourDigits_77 (lv_at hl 0 rfl) ?_
                refine lv_if_ne (tgt := 96) hx hb dX4_fourDigits_79 (by decide) (fun c_75 => ?_) (fun c_75 => ?_)
                · skip
                  exact absurd c_75 (by decide)
                · skip
                  refine lv_iload_n hx hb dX4_fourDigits_82 rfl (lv_at hl 2 rfl) ?_
                  refine lv_bipush (v := 48) hx hb dX4_fourDigits_83 (by decide) ?_
                  refine lv_icmp_lt (tgt := 94) hx hb dX4_fourDigits_85 (by decide) (fun c_76 => ?_) (fun c_76 => ?_)
                  · skip
                    have c_76' : z_8.toInt < 48 := jb_lt (rfl) ((by decide)) c_76
                    refine lv_iconst (v := (-1)) hx hb dX4_fourDigits_94 (by decide) ?_
                    rw [hQ]
                    exact W.iret (v := (-1)) hx hb hr (fun t ht hW => ⟨⟨(-1), wt_1, rfl, by first | omega | (refine ⟨?_, ?_⟩ <;> (first | omega | rfl | assumption | decide | exact Or.inl rfl | exact Or.inr rfl | (simp only; omega))), hh_1.rt (M1 := [(r0, 6, 11, .int wt_1)]) [0] rfl ht⟩, by rw [ht]; try exact hh_1.1.1, fun q h9 hq => by rw [ht]; try exact hh_1.1.2.1 q h9 hq⟩) hh_1.1.2.2 dX4_fourDigits_95
                  · skip
                    have c_76' : z_8.toInt ≥ 48 := jb_lt_n (rfl) ((by decide)) c_76
                    refine lv_iload_n hx hb dX4_fourDigits_88 rfl (lv_at hl 2 rfl) ?_
                    refine lv_bipush (v := 57) hx hb dX4_fourDigits_89 (by decide) ?_
                    refine lv_icmp_le (tgt := 96) hx hb dX4_fourDigits_91 (by decide) (fun c_77 => ?_) (fun c_77 => ?_)
                    · skip
                      have c_77' : z_8.toInt ≤ 57 := jb_le (rfl) ((by decide)) c_77
                      refine lv_iload_n hx hb dX4_fourDigits_96 rfl (lv_at hl 4 rfl) ?_
                      refine lv_iconst (v := 4) hx hb dX4_fourDigits_97 (by decide) ?_
                      refine lv_ishl hx hb dX4_fourDigits_98 ?_
                      refine lv_topi (fun z_78 ez_78 => ?_)
                      refine lv_iload hx hb dX4_fourDigits_99 (lv_at hl 0 rfl) ?_
                      refine lv_if_eq (tgt := 115) hx hb dX4_fourDigits_101 (by decide) (fun c_79 => ?_) (fun c_79 => ?_)
                      · skip
                        refine lv_iload_n hx hb dX4_fourDigits_115 rfl (lv_at hl 2 rfl) ?_
                        refine lv_bipush (v := 48) hx hb dX4_fourDigits_116 (by decide) ?_
                        refine lv_isub hx hb dX4_fourDigits_118 ?_
                        refine lv_topi (fun z_80 ez_80 => ?_)
                        have hz_80 : z_80.toInt = z_8.toInt - 48 := by rw [ez_80]; exact jb_isub2 (rfl) ((by decide)) (by omega)
                        refine lv_ior hx hb dX4_fourDigits_119 ?_
                        refine lv_topi (fun z_81 ez_81 => ?_)
                        refine lv_istore_n (lv' := [(1, .int z_81), (5, .int 0), (4, .int z_73), (3, .int z_8), (0, .ref r0), (2, .int v2_1)]) hx hb dX4_fourDigits_120 rfl hl (by decide) rfl (fun ls hl => ?_)
                        refine lv_aload_n hx hb dX4_fourDigits_121 rfl (lv_at hl 4 rfl) ?_
                        refine lv_dup hx hb dX4_fourDigits_122 rfl ?_
                        refine j7_read hx hb hown hK (C := RX4) (T := TX4) (N := 12) rfl hly_6_11 hlk_47 (hh_1.at 0 rfl) dX4_fourDigits_123 ?_
                        refine lv_iconst (v := 1) hx hb dX4_fourDigits_126 (by decide) ?_
                        refine lv_iadd hx hb dX4_fourDigits_127 ?_
                        refine lv_topi (fun z_82 ez_82 => ?_)
                        have hz_82 : z_82.toInt = wt_1.toInt + 1 := by rw [ez_82]; exact jb_iadd2 (rfl) ((by decide)) (by omega)
                        refine j7_put hx hb hown hK hh_1 hB hAp hB6 (C := RX4) (T := TX4) (N := 12) rfl (by decide) hg_r0 (i := 11) (by decide) hly_6_11 rfl hlk_47 rfl (ty := .int) (v := .int z_82) (by decide +kernel) rfl rfl (⟨_, rfl, by omega, by omega⟩) rfl (L1 := [(r0, 6, 9, .ref rb), (r0, 6, 10, .int pe)]) [1, 2] rfl rfl rfl dX4_fourDigits_128 (fun H_83 locs_83 hh_83 => ?_)
                        clear hh_1
                        obtain ⟨z_84, ez_84⟩ : ∃ y : Int32, y = v2_1 + 1 := ⟨_, rfl⟩
                        refine lv_iinc (v := z_84) (lv' := [(2, .int z_84), (1, .int z_81), (5, .int 0), (4, .int z_73), (3, .int z_8), (0, .ref r0)]) hx hb dX4_fourDigits_131 hl (k := 5) rfl (by rw [ez_84]; rfl) (by decide) rfl (fun ls hl => ?_)
                        have hz_84 : z_84.toInt = v2_1.toInt + 1 := by rw [ez_84]; exact jb_iadd2 (rfl) (by decide) (by omega)
                        refine lv_goto (tgt := 4) hx hb dX4_fourDigits_134 (by decide) ?_
                        exact L4 z_81 z_84 z_82 _ _ hh_83 (by first | omega | (refine ⟨?_, ?_, ?_, ?_⟩ <;> (first | omega | rfl | assumption | decide | exact Or.inl rfl | exact Or.inr rfl | (simp only; omega)))) (by omega) _ (lv_sub hl [5, 1, 0] rfl)
                      · skip
                        exact absurd c_79 (by decide)
                    · skip
                      have c_77' : z_8.toInt > 57 := jb_le_n (rfl) ((by decide)) c_77
                      refine lv_iconst (v := (-1)) hx hb dX4_fourDigits_94 (by decide) ?_
                      rw [hQ]
                      exact W.iret (v := (-1)) hx hb hr (fun t ht hW => ⟨⟨(-1), wt_1, rfl, by first | omega | (refine ⟨?_, ?_⟩ <;> (first | omega | rfl | assumption | decide | exact Or.inl rfl | exact Or.inr rfl | (simp only; omega))), hh_1.rt (M1 := [(r0, 6, 11, .int wt_1)]) [0] rfl ht⟩, by rw [ht]; try exact hh_1.1.1, fun q h9 hq => by rw [ht]; try exact hh_1.1.2.1 q h9 hq⟩) hh_1.1.2.2 dX4_fourDigits_95
              · skip
                have c_74' : z_73.toInt ≥ 97 := jb_lt_n (rfl) ((by decide)) c_74
                refine lv_iload hx hb dX4_fourDigits_63 (lv_at hl 0 rfl) ?_
                refine lv_bipush (v := 102) hx hb dX4_fourDigits_65 (by decide) ?_
                refine lv_icmp_gt (tgt := 74) hx hb dX4_fourDigits_67 (by decide) (fun c_85 => ?_) (fun c_85 => ?_)
                · skip
                  have c_85' : z_73.toInt > 102 := jb_gt (rfl) ((by decide)) c_85
                  refine lv_iconst (v := 0) hx hb dX4_fourDigits_74 (by decide) ?_
                  refine lv_istore (lv' := [(5, .int 0), (4, .int z_73), (3, .int z_8), (0, .ref r0), (1, .int v1_1), (2, .int v2_1)]) hx hb dX4_fourDigits_75 hl (by decide) rfl (fun ls hl => ?_)
                  refine lv_iload hx hb dX4_fourDigits_77 (lv_at hl 0 rfl) ?_
                  refine lv_if_ne (tgt := 96) hx hb dX4_fourDigits_79 (by decide) (fun c_86 => ?_) (fun c_86 => ?_)
                  · skip
                    exact absurd c_86 (by decide)
                  · skip
                    refine lv_iload_n hx hb dX4_fourDigits_82 rfl (lv_at hl 2 rfl) ?_
                    refine lv_bipush (v := 48) hx hb dX4_fourDigits_83 (by decide) ?_
                    refine lv_icmp_lt (tgt := 94) hx hb dX4_fourDigits_85 (by decide) (fun c_87 => ?_) (fun c_87 => ?_)
                    · skip
                      have c_87' : z_8.toInt < 48 := jb_lt (rfl) ((by decide)) c_87
                      refine lv_iconst (v := (-1)) hx hb dX4_fourDigits_94 (by decide) ?_
                      rw [hQ]
                      exact W.iret (v := (-1)) hx hb hr (fun t ht hW => ⟨⟨(-1), wt_1, rfl, by first | omega | (refine ⟨?_, ?_⟩ <;> (first | omega | rfl | assumption | decide | exact Or.inl rfl | exact Or.inr rfl | (simp only; omega))), hh_1.rt (M1 := [(r0, 6, 11, .int wt_1)]) [0] rfl ht⟩, by rw [ht]; try exact hh_1.1.1, fun q h9 hq => by rw [ht]; try exact hh_1.1.2.1 q h9 hq⟩) hh_1.1.2.2 dX4_fourDigits_95
                    · skip
                      have c_87' : z_8.toInt ≥ 48 := jb_lt_n (rfl) ((by decide)) c_87
                      refine lv_iload_n hx hb dX4_fourDigits_88 rfl (lv_at hl 2 rfl) ?_
                      refine lv_bipush (v := 57) hx hb dX4_fourDigits_89 (by decide) ?_
                      refine lv_icmp_le (tgt := 96) hx hb dX4_fourDigits_91 (by decide) (fun c_88 => ?_) (fun c_88 => ?_)
                      · skip
                        have c_88' : z_8.toInt ≤ 57 := jb_le (rfl) ((by decide)) c_88
                        refine lv_iload_n hx hb dX4_fourDigits_96 rfl (lv_at hl 4 rfl) ?_
                        refine lv_iconst (v := 4) hx hb dX4_fourDigits_97 (by decide) ?_
                        refine lv_ishl hx hb dX4_fourDigits_98 ?_
                        refine lv_topi (fun z_89 ez_89 => ?_)
                        refine lv_iload hx hb dX4_fourDigits_99 (lv_at hl 0 rfl) ?_
                        refine lv_if_eq (tgt := 115) hx hb dX4_fourDigits_101 (by decide) (fun c_90 => ?_) (fun c_90 => ?_)
                        · skip
                          refine lv_iload_n hx hb dX4_fourDigits_115 rfl (lv_at hl 2 rfl) ?_
                          refine lv_bipush (v := 48) hx hb dX4_fourDigits_116 (by decide) ?_
                          refine lv_isub hx hb dX4_fourDigits_118 ?_
                          refine lv_topi (fun z_91 ez_91 => ?_)
                          have hz_91 : z_91.toInt = z_8.toInt - 48 := by rw [ez_91]; exact jb_isub2 (rfl) ((by decide)) (by omega)
                          refine lv_ior hx hb dX4_fourDigits_119 ?_
                          refine lv_topi (fun z_92 ez_92 => ?_)
                          refine lv_istore_n (lv' := [(1, .int z_92), (5, .int 0), (4, .int z_73), (3, .int z_8), (0, .ref r0), (2, .int v2_1)]) hx hb dX4_fourDigits_120 rfl hl (by decide) rfl (fun ls hl => ?_)
                          refine lv_aload_n hx hb dX4_fourDigits_121 rfl (lv_at hl 4 rfl) ?_
                          refine lv_dup hx hb dX4_fourDigits_122 rfl ?_
                          refine j7_read hx hb hown hK (C := RX4) (T := TX4) (N := 12) rfl hly_6_11 hlk_47 (hh_1.at 0 rfl) dX4_fourDigits_123 ?_
                          refine lv_iconst (v := 1) hx hb dX4_fourDigits_126 (by decide) ?_
                          refine lv_iadd hx hb dX4_fourDigits_127 ?_
                          refine lv_topi (fun z_93 ez_93 => ?_)
                          have hz_93 : z_93.toInt = wt_1.toInt + 1 := by rw [ez_93]; exact jb_iadd2 (rfl) ((by decide)) (by omega)
                          refine j7_put hx hb hown hK hh_1 hB hAp hB6 (C := RX4) (T := TX4) (N := 12) rfl (by decide) hg_r0 (i := 11) (by decide) hly_6_11 rfl hlk_47 rfl (ty := .int) (v := .int z_93) (by decide +kernel) rfl rfl (⟨_, rfl, by omega, by omega⟩) rfl (L1 := [(r0, 6, 9, .ref rb), (r0, 6, 10, .int pe)]) [1, 2] rfl rfl rfl dX4_fourDigits_128 (fun H_94 locs_94 hh_94 => ?_)
                          clear hh_1
                          obtain ⟨z_95, ez_95⟩ : ∃ y : Int32, y = v2_1 + 1 := ⟨_, rfl⟩
                          refine lv_iinc (v := z_95) (lv' := [(2, .int z_95), (1, .int z_92), (5, .int 0), (4, .int z_73), (3, .int z_8), (0, .ref r0)]) hx hb dX4_fourDigits_131 hl (k := 5) rfl (by rw [ez_95]; rfl) (by decide) rfl (fun ls hl => ?_)
                          have hz_95 : z_95.toInt = v2_1.toInt + 1 := by rw [ez_95]; exact jb_iadd2 (rfl) (by decide) (by omega)
                          refine lv_goto (tgt := 4) hx hb dX4_fourDigits_134 (by decide) ?_
                          exact L4 z_92 z_95 z_93 _ _ hh_94 (by first | omega | (refine ⟨?_, ?_, ?_, ?_⟩ <;> (first | omega | rfl | assumption | decide | exact Or.inl rfl | exact Or.inr rfl | (simp only; omega)))) (by omega) _ (lv_sub hl [5, 1, 0] rfl)
                        · skip
                          exact absurd c_90 (by decide)
                      · skip
                        have c_88' : z_8.toInt > 57 := jb_le_n (rfl) ((by decide)) c_88
                        refine lv_iconst (v := (-1)) hx hb dX4_fourDigits_94 (by decide) ?_
                        rw [hQ]
                        exact W.iret (v := (-1)) hx hb hr (fun t ht hW => ⟨⟨(-1), wt_1, rfl, by first | omega | (refine ⟨?_, ?_⟩ <;> (first | omega | rfl | assumption | decide | exact Or.inl rfl | exact Or.inr rfl | (simp only; omega))), hh_1.rt (M1 := [(r0, 6, 11, .int wt_1)]) [0] rfl ht⟩, by rw [ht]; try exact hh_1.1.1, fun q h9 hq => by rw [ht]; try exact hh_1.1.2.1 q h9 hq⟩) hh_1.1.2.2 dX4_fourDigits_95
                · skip
                  have c_85' : z_73.toInt ≤ 102 := jb_gt_n (rfl) ((by decide)) c_85
                  refine lv_iconst (v := 1) hx hb dX4_fourDigits_70 (by decide) ?_
                  refine lv_goto (tgt := 75) hx hb dX4_fourDigits_71 (by decide) ?_
                  refine lv_istore (lv' := [(5, .int 1), (4, .int z_73), (3, .int z_8), (0, .ref r0), (1, .int v1_1), (2, .int v2_1)]) hx hb dX4_fourDigits_75 hl (by decide) rfl (fun ls hl => ?_)
                  refine lv_iload hx hb dX4_fourDigits_77 (lv_at hl 0 rfl) ?_
                  refine lv_if_ne (tgt := 96) hx hb dX4_fourDigits_79 (by decide) (fun c_96 => ?_) (fun c_96 => ?_)
                  · skip
                    refine lv_iload_n hx hb dX4_fourDigits_96 rfl (lv_at hl 4 rfl) ?_
                    refine lv_iconst (v := 4) hx hb dX4_fourDigits_97 (by decide) ?_
                    refine lv_ishl hx hb dX4_fourDigits_98 ?_
                    refine lv_topi (fun z_97 ez_97 => ?_)
                    refine lv_iload hx hb dX4_fourDigits_99 (lv_at hl 0 rfl) ?_
                    refine lv_if_eq (tgt := 115) hx hb dX4_fourDigits_101 (by decide) (fun c_98 => ?_) (fun c_98 => ?_)
                    · skip
                      exact absurd c_98 (by decide)
                    · skip
                      refine lv_iload hx hb dX4_fourDigits_104 (lv_at hl 1 rfl) ?_
                      refine lv_bipush (v := 97) hx hb dX4_fourDigits_106 (by decide) ?_
                      refine lv_isub hx hb dX4_fourDigits_108 ?_
                      refine lv_topi (fun z_99 ez_99 => ?_)
                      have hz_99 : z_99.toInt = z_73.toInt - 97 := by rw [ez_99]; exact jb_isub2 (rfl) ((by decide)) (by omega)
                      refine lv_bipush (v := 10) hx hb dX4_fourDigits_109 (by decide) ?_
                      refine lv_iadd hx hb dX4_fourDigits_111 ?_
                      refine lv_topi (fun z_100 ez_100 => ?_)
                      have hz_100 : z_100.toInt = z_99.toInt + 10 := by rw [ez_100]; exact jb_iadd2 (rfl) ((by decide)) (by omega)
                      refine lv_goto (tgt := 119) hx hb dX4_fourDigits_112 (by decide) ?_
                      refine lv_ior hx hb dX4_fourDigits_119 ?_
                      refine lv_topi (fun z_101 ez_101 => ?_)
                      refine lv_istore_n (lv' := [(1, .int z_101), (5, .int 1), (4, .int z_73), (3, .int z_8), (0, .ref r0), (2, .int v2_1)]) hx hb dX4_fourDigits_120 rfl hl (by decide) rfl (fun ls hl => ?_)
                      refine lv_aload_n hx hb dX4_fourDigits_121 rfl (lv_at hl 4 rfl) ?_
                      refine lv_dup hx hb dX4_fourDigits_122 rfl ?_
                      refine j7_read hx hb hown hK (C := RX4) (T := TX4) (N := 12) rfl hly_6_11 hlk_47 (hh_1.at 0 rfl) dX4_fourDigits_123 ?_
                      refine lv_iconst (v := 1) hx hb dX4_fourDigits_126 (by decide) ?_
                      refine lv_iadd hx hb dX4_fourDigits_127 ?_
                      refine lv_topi (fun z_102 ez_102 => ?_)
                      have hz_102 : z_102.toInt = wt_1.toInt + 1 := by rw [ez_102]; exact jb_iadd2 (rfl) ((by decide)) (by omega)
                      refine j7_put hx hb hown hK hh_1 hB hAp hB6 (C := RX4) (T := TX4) (N := 12) rfl (by decide) hg_r0 (i := 11) (by decide) hly_6_11 rfl hlk_47 rfl (ty := .int) (v := .int z_102) (by decide +kernel) rfl rfl (⟨_, rfl, by omega, by omega⟩) rfl (L1 := [(r0, 6, 9, .ref rb), (r0, 6, 10, .int pe)]) [1, 2] rfl rfl rfl dX4_fourDigits_128 (fun H_103 locs_103 hh_103 => ?_)
                      clear hh_1
                      obtain ⟨z_104, ez_104⟩ : ∃ y : Int32, y = v2_1 + 1 := ⟨_, rfl⟩
                      refine lv_iinc (v := z_104) (lv' := [(2, .int z_104), (1, .int z_101), (5, .int 1), (4, .int z_73), (3, .int z_8), (0, .ref r0)]) hx hb dX4_fourDigits_131 hl (k := 5) rfl (by rw [ez_104]; rfl) (by decide) rfl (fun ls hl => ?_)
                      have hz_104 : z_104.toInt = v2_1.toInt + 1 := by rw [ez_104]; exact jb_iadd2 (rfl) (by decide) (by omega)
                      refine lv_goto (tgt := 4) hx hb dX4_fourDigits_134 (by decide) ?_
                      exact L4 z_101 z_104 z_102 _ _ hh_103 (by first | omega | (refine ⟨?_, ?_, ?_, ?_⟩ <;> (first | omega | rfl | assumption | decide | exact Or.inl rfl | exact Or.inr rfl | (simp only; omega)))) (by omega) _ (lv_sub hl [5, 1, 0] rfl)
                  · skip
                    exact absurd c_96 (by decide)
  exact L4 (4 - (0 : Int32).toInt : Int).toNat.succ 0 0 pt _ _ (hh.sub (L1 := [(r0, 6, 11, .int pt), (r0, 6, 9, .ref rb), (r0, 6, 10, .int pe)]) [2, 0, 1] rfl (M1 := []) [] rfl (I1 := []) [] rfl) (by first | omega | (refine ⟨?_, ?_, ?_, ?_⟩ <;> (first | omega | rfl | assumption | decide | exact Or.inl rfl | exact Or.inr rfl | (simp only; omega)))) (by omega) _ (lv_sub hl [2, 1, 0] rfl)
set_option maxHeartbeats 4000000 in
set_option maxRecDepth 20000 in
theorem uX4_isEscape (l : Launch) (dC : Nat → ClassId) (dI : Nat → Nat → Nat) (ca : Nat → ClassId) (base : Nat) (B : jF) (hB : jBok B) (hAp : jAp (dC, dI)) (hB6 : ∀ n G a H, B 6 n G a H ↔ jOb (dC, dI) 6 12 (F6 n G) a H) (hB100 : ∀ n G a H, B 100 n G a H ↔ jAr (dC, dI) (ca 0) (fun j z => True) n a H) (hB146 : ∀ n G a H, B 146 n G a H ↔ jAr (dC, dI) (ca 1) (fun j z => True) n a H) (G0 : jT) (H0 : Heap) (r0 : Nat) (rb : Nat) (n_rb : Nat) (pe : Int32) (pt : Int32) : Met l yX4_isEscape (jw yX4_isEscape cX4_isEscape 2 (some .boolean)) ({ frames := 1, cells := 0, slots := 0, locals := 21 }) (va_Pc [.ref r0] (fun U => U.heap = H0 ∧ jX B base G0 [] H0 ∧ jG dC dI ca base U ∧ G0 r0 = some (6, 0) ∧ G0 rb = some (100, n_rb) ∧ jP (dC, dI) G0 H0 [(r0, 6, 9, .ref rb), (r0, 6, 10, .int pe), (r0, 6, 11, .int pt)] ∧ 0 ≤ pe.toInt ∧ pe.toInt ≤ n_rb ∧ n_rb ≤ 3000 ∧ 0 ≤ pt.toInt ∧ pt.toInt ≤ 19000 ∧ pt.toInt < pe.toInt)) (va_Qi (S := Int32) (fun r u => (r = 0 ∨ r = 1) ∧ (pt.toInt + 2 ≤ u.toInt ∧ u.toInt ≤ pe.toInt + 1 - r.toInt)) (fun u t => jRt (dC, dI) B base G0 EX4_isEscape H0 [(r0, 6, 11, .int u)] t.heap) (jA base)) 0 0 (jA base) := by
  refine Met.ofW (cc := cX4_isEscape) (maxL := 2) (ret := (some .boolean)) (by decide) rfl ?_
  intro p e s m args below meth c s₁ Bd hml hv
  obtain ⟨rfl, hH0, hX, hG, hg_r0, hg_rb, hP0, hp0, hp1, hp2, hp3, hp4, hp5⟩ := hv
  have hK := hG.1
  have hx := Bd.exec
  have hb := Bd.bytes
  have hr := Bd.returns
  have hts := atoms_spec (ws := (jw yX4_isEscape cX4_isEscape 2 (some .boolean))) Bd.pre
  have htw : ∀ w ∈ jWl, w.before _ s = true := fun w h => hts w (List.mem_cons_of_mem _ h)
  have hown : s.vm.findClass RX4 = some m.cls := findClass_of_methodNamed Bd.named
  have hlocks := Bd.notSynchronized
  obtain ⟨Q, hQ⟩ : ∃ Q, Q = MQ below (va_Qi (S := Int32) (fun r u => (r = 0 ∨ r = 1) ∧ (pt.toInt + 2 ≤ u.toInt ∧ u.toInt ≤ pe.toInt + 1 - r.toInt)) (fun u t => jRt (dC, dI) B base G0 EX4_isEscape H0 [(r0, 6, 11, .int u)] t.heap) (jA base)) ([.ref r0] : List Value).toArray s 0 0 (jA base) := ⟨_, rfl⟩
  rw [← hQ]
  have hl := lv_entry ([.ref r0]) (n := 2) (Nat.le_of_ble_eq_true rfl)
  rw [lg_entry_eq]
  generalize (lg_sl ([.ref r0]) ++ List.replicate (2 - (lg_sl ([.ref r0])).length) Slot.unset).toArray = ls at hl ⊢
  have hl : lv_has ls 2 [(0, .ref r0)] := hl
  generalize hR : (headSpec (jw yX4_isEscape cX4_isEscape 2 (some .boolean)) ({ frames := 1, cells := 0, slots := 0, locals := 21 })).room = R
  subst hH0
  have hh : jSt (dC, dI) B base G0 G0 EX4_isEscape s.heap 0 0 [(r0, 6, 9, .ref rb), (r0, 6, 10, .int pe), (r0, 6, 11, .int pt)] [] [] s.heap [] := jSt.start hX hP0 jMc.nil jIs.nil
  clear hX hP0
  have hk0 : (0 : Int32).toInt = 0 := by decide
  have hk1 : (1 : Int32).toInt = 1 := by decide
  have hk8 : (8 : Int32).toInt = 8 := by decide
  have hk9 : (9 : Int32).toInt = 9 := by decide
  have hk10 : (10 : Int32).toInt = 10 := by decide
  have hk12 : (12 : Int32).toInt = 12 := by decide
  have hk13 : (13 : Int32).toInt = 13 := by decide
  have hly_6_11 := htw (u_lay RX4 TX4 11) (jWc_wsX40 _ (u_in_lay (by decide)))
  have hlk_47 := (htw (.fieldLink RX4 47 "ProofServer$Json" "at" "I") (jWr_19 _ (List.mem_of_getElem? (i := 12) rfl)))
  refine lv_aload_n hx hb dX4_isEscape_0 rfl (lv_at hl 0 rfl) ?_
  refine lv_dup hx hb dX4_isEscape_1 rfl ?_
  refine j7_read hx hb hown hK (C := RX4) (T := TX4) (N := 12) rfl hly_6_11 hlk_47 (hh.at 2 rfl) dX4_isEscape_2 ?_
  refine lv_iconst (v := 1) hx hb dX4_isEscape_5 (by decide) ?_
  refine lv_iadd hx hb dX4_isEscape_6 ?_
  refine lv_topi (fun z_1 ez_1 => ?_)
  have hz_1 : z_1.toInt = pt.toInt + 1 := by rw [ez_1]; exact jb_iadd2 (rfl) ((by decide)) (by omega)
  refine j7_put hx hb hown hK hh hB hAp hB6 (C := RX4) (T := TX4) (N := 12) rfl (by decide) hg_r0 (i := 11) (by decide) hly_6_11 rfl hlk_47 rfl (ty := .int) (v := .int z_1) (by decide +kernel) rfl rfl (⟨_, rfl, by omega, by omega⟩) rfl (L1 := [(r0, 6, 9, .ref rb), (r0, 6, 10, .int pe)]) [0, 1] rfl rfl rfl dX4_isEscape_7 (fun H_2 locs_2 hh_2 => ?_)
  clear hh
  refine lv_aload_n hx hb dX4_isEscape_10 rfl (lv_at hl 0 rfl) ?_
  refine va_calli (A0 := jA base) (H0 := s.heap) (va_runV (As := []) (rest := []) ⟨hx, hb, hml, hown, hts⟩ (uX4_peek l dC dI ca base B hB hAp hB6 hB100 G0 H_2 r0 rb n_rb pe z_1) (cwV 0 hts (jgV (jWr_19 _ (List.mem_of_getElem? (i := 19) rfl)) (jWr_19 _ (List.mem_of_getElem? (i := 20) rfl)) (jWr_19 _ (List.mem_of_getElem? (i := 21) rfl)) (jWr_1 _ (List.mem_of_getElem? (i := 22) rfl)) (jWr_19 _ (List.mem_of_getElem? (i := 22) rfl))) rfl rfl rfl (by decide +kernel) ⟨by rw [← hR]; exact Nat.le_of_ble_eq_true rfl, by rw [← hR]; exact Nat.le_of_ble_eq_true rfl⟩) ⟨fun a U g mk q => by obtain ⟨q0, q1, q2, qK, q10, q11, q12, q13⟩ := q; exact ⟨q0, q1, q2, jG.calling g mk a qK, q10, q11, q12, q13⟩, hh_2.recv (C := RX4) (T := TX4) (N := 12) hB6 rfl (by decide) hg_r0 hK, fun U hU hW => ⟨rfl, hU, hh_2.2.1, hG.step hW hU hh_2.1, hg_r0, hg_rb, (hh_2.2.2.1.sub (L1 := [(r0, 6, 9, .ref rb), (r0, 6, 10, .int pe), (r0, 6, 11, .int z_1)]) [1, 2, 0] rfl), by first | omega | (refine ⟨?_, ?_, ?_, ?_, ?_⟩ <;> (first | omega | rfl | assumption | decide | exact Or.inl rfl | exact Or.inr rfl | (simp only; omega)))⟩⟩ rfl rfl hl.1 rfl (lv_room (Nat.le_of_ble_eq_true rfl)) dX4_isEscape_11 ⟨Nat.zero_le _, Nat.zero_le _⟩) hh_2.1 (fun q _ h => h) (fun q h => h) (fun r_4 u_3 t_3 H_3 locs_3 ht_3 hvm_3 hr_4 hb_3 hz_3 hk_3 hS_3 => ?_)
  rw [ht_3] at hb_3
  obtain ⟨hb_31, hb_32, hb_33, hb_34, hb_35⟩ := hb_3
  have hh_3 : jSt (dC, dI) B base G0 G0 EX4_isEscape s.heap 0 0 [(r0, 6, 11, .int z_1), (r0, 6, 9, .ref rb), (r0, 6, 10, .int pe)] [] [] H_3 locs_3 := ((hh_2.call hb_31 hb_32 hb_33 hb_34 hS_3 rfl (L1 := [(r0, 6, 11, .int z_1), (r0, 6, 9, .ref rb), (r0, 6, 10, .int pe)]) [0, 1, 2] rfl rfl (M1 := []) [] rfl rfl (I1 := []) [] rfl rfl).more hb_35)
  clear hh_2 ht_3 hvm_3 hz_3 hk_3 hS_3 hb_31 hb_32 hb_33 hb_34 hb_35
  obtain ⟨hr_4_0, hr_4_1, hr_4_2⟩ := hr_4
  refine lv_istore_n (lv' := [(1, .int r_4), (0, .ref r0)]) hx hb dX4_isEscape_14 rfl hl (by decide) rfl (fun ls hl => ?_)
  refine lv_aload_n hx hb dX4_isEscape_15 rfl (lv_at hl 1 rfl) ?_
  refine lv_dup hx hb dX4_isEscape_16 rfl ?_
  refine j7_read hx hb hown hK (C := RX4) (T := TX4) (N := 12) rfl hly_6_11 hlk_47 (hh_3.at 0 rfl) dX4_isEscape_17 ?_
  refine lv_iconst (v := 1) hx hb dX4_isEscape_20 (by decide) ?_
  refine lv_iadd hx hb dX4_isEscape_21 ?_
  refine lv_topi (fun z_5 ez_5 => ?_)
  have hz_5 : z_5.toInt = z_1.toInt + 1 := by rw [ez_5]; exact jb_iadd2 (rfl) ((by decide)) (by omega)
  refine j7_put hx hb hown hK hh_3 hB hAp hB6 (C := RX4) (T := TX4) (N := 12) rfl (by decide) hg_r0 (i := 11) (by decide) hly_6_11 rfl hlk_47 rfl (ty := .int) (v := .int z_5) (by decide +kernel) rfl rfl (⟨_, rfl, by omega, by omega⟩) rfl (L1 := [(r0, 6, 9, .ref rb), (r0, 6, 10, .int pe)]) [1, 2] rfl rfl rfl dX4_isEscape_22 (fun H_6 locs_6 hh_6 => ?_)
  clear hh_3
  refine lv_iload_n hx hb dX4_isEscape_25 rfl (lv_at hl 0 rfl) ?_
  have C100 : ∀ (H_8 : Heap) (locs_8 : List Loc), jSt (dC, dI) B base G0 G0 EX4_isEscape s.heap 0 0 [(r0, 6, 11, .int z_5), (r0, 6, 9, .ref rb), (r0, 6, 10, .int pe)] [] [] H_8 locs_8 → (34 ≤ r_4.toInt ∧ r_4.toInt ≤ 92) → ∀ ls : Array Slot, lv_has ls 2 [(0, .ref r0), (1, .int r_4)] → W p l e R s m ([.ref r0] : List Value).toArray below meth c H_8 locs_8 0 0 Q (F0 m 100 ls []) := by
    intro  H_8 locs_8 hh_8  hi_8 ls hl
    obtain ⟨hi_8_0, hi_8_1⟩ := hi_8
    refine lv_aload_n hx hb dX4_isEscape_100 rfl (lv_at hl 0 rfl) ?_
    refine lv_iload_n hx hb dX4_isEscape_101 rfl (lv_at hl 1 rfl) ?_
    refine va_callv (A0 := jA base) (H0 := s.heap) (va_runV (As := [.int r_4]) (rest := []) ⟨hx, hb, hml, hown, hts⟩ (uX4_addUnit l dC dI ca base B hB hAp hB6 hB146 G0 H_8 r0 r_4) (cwV 1 hts (jgV (jWr_21 _ (List.mem_of_getElem? (i := 13) rfl)) (jWr_21 _ (List.mem_of_getElem? (i := 14) rfl)) (jWr_21 _ (List.mem_of_getElem? (i := 15) rfl)) (jWr_1 _ (List.mem_of_getElem? (i := 22) rfl)) (jWr_21 _ (List.mem_of_getElem? (i := 16) rfl))) rfl rfl rfl (by decide +kernel) ⟨by rw [← hR]; exact Nat.le_of_ble_eq_true rfl, by rw [← hR]; exact Nat.le_of_ble_eq_true rfl⟩) ⟨fun a U g mk q => by obtain ⟨q0, q1, q2, qK, q10, q11, q12⟩ := q; exact ⟨q0, q1, q2, jG.calling g mk a qK, q10, q11, q12⟩, hh_8.recv (C := RX4) (T := TX4) (N := 12) hB6 rfl (by decide) hg_r0 hK, fun U hU hW => ⟨rfl, hU, hh_8.2.1, hG.step hW hU hh_8.1, hg_r0, jP.nil, trivial⟩⟩ rfl rfl hl.1 rfl (lv_room (Nat.le_of_ble_eq_true rfl)) dX4_isEscape_102 ⟨Nat.zero_le _, Nat.zero_le _⟩) hh_8.1 (fun q _ h => h) (fun q h => h) (fun u_9 t_9 H_9 locs_9 ht_9 hvm_9 hr_10 hb_9 hz_9 hk_9 hS_9 => ?_)
    rw [ht_9] at hb_9
    obtain ⟨hb_91, hb_92, hb_93, hb_94, hb_95⟩ := hb_9
    have hh_9 : jSt (dC, dI) B base G0 G0 EX4_isEscape s.heap 0 0 [(r0, 6, 11, .int z_5), (r0, 6, 9, .ref rb), (r0, 6, 10, .int pe)] [] [] H_9 locs_9 := ((hh_8.call hb_91 hb_92 hb_93 hb_94 hS_9 rfl (L1 := [(r0, 6, 11, .int z_5), (r0, 6, 9, .ref rb), (r0, 6, 10, .int pe)]) [0, 1, 2] rfl rfl (M1 := []) [] rfl rfl (I1 := []) [] rfl rfl).more hb_95)
    clear hh_8 ht_9 hvm_9 hz_9 hk_9 hS_9 hb_91 hb_92 hb_93 hb_94 hb_95
    refine lv_iconst (v := 1) hx hb dX4_isEscape_105 (by decide) ?_
    rw [hQ]
    exact W.zret (v := 1) hx hb hr (jb_nz (Or.inr rfl)) (fun t ht hW => ⟨⟨1, z_5, rfl, ⟨(Or.inr rfl), by first | omega | (refine ⟨?_, ?_⟩ <;> (first | omega | rfl | assumption | decide | exact Or.inl rfl | exact Or.inr rfl | (simp only; omega)))⟩, hh_9.rt (M1 := [(r0, 6, 11, .int z_5)]) [0] rfl ht⟩, by rw [ht]; try exact hh_9.1.1, fun q h9 hq => by rw [ht]; try exact hh_9.1.2.1 q h9 hq⟩) hh_9.1.2.2 dX4_isEscape_106
  rcases (by omega : (r_4.toInt ≠ 34 ∧ r_4.toInt ≠ 47 ∧ r_4.toInt ≠ 92 ∧ r_4.toInt ≠ 98 ∧ r_4.toInt ≠ 102 ∧ r_4.toInt ≠ 110 ∧ r_4.toInt ≠ 114 ∧ r_4.toInt ≠ 116) ∨ r_4.toInt = 34 ∨ r_4.toInt = 47 ∨ r_4.toInt = 92 ∨ r_4.toInt = 98 ∨ r_4.toInt = 102 ∨ r_4.toInt = 110 ∨ r_4.toInt = 114 ∨ r_4.toInt = 116) with c_7 | c_7 | c_7 | c_7 | c_7 | c_7 | c_7 | c_7 | c_7
  · refine lv_lookup (off := 121) (tgt := 147) hx hb dX4_isEscape_26 (by decide) (by show Op.lookupswitch.offset [(34, 74), (47, 74), (92, 74), (98, 81), (102, 89), (110, 97), (114, 105), (116, 113)] 121 r_4.toInt = 121; simp only [Op.lookupswitch.offset]; rw [if_neg (by omega), if_neg (by omega), if_neg (by omega), if_neg (by omega), if_neg (by omega), if_neg (by omega), if_neg (by omega), if_neg (by omega)]) (by decide) ?_
    refine lv_iconst (v := 0) hx hb dX4_isEscape_147 (by decide) ?_
    rw [hQ]
    exact W.zret (v := 0) hx hb hr (jb_nz (Or.inl rfl)) (fun t ht hW => ⟨⟨0, z_5, rfl, ⟨(Or.inl rfl), by first | omega | (refine ⟨?_, ?_⟩ <;> (first | omega | rfl | assumption | decide | exact Or.inl rfl | exact Or.inr rfl | (simp only; omega)))⟩, hh_6.rt (M1 := [(r0, 6, 11, .int z_5)]) [0] rfl ht⟩, by rw [ht]; try exact hh_6.1.1, fun q h9 hq => by rw [ht]; try exact hh_6.1.2.1 q h9 hq⟩) hh_6.1.2.2 dX4_isEscape_148
  · refine lv_lookup (off := 74) (tgt := 100) hx hb dX4_isEscape_26 (by decide) (by rw [c_7]; rfl) (by decide) ?_
    exact C100  _ _ hh_6 (by first | omega | (refine ⟨?_, ?_⟩ <;> (first | omega | rfl | assumption | decide | exact Or.inl rfl | exact Or.inr rfl | (simp only; omega)))) _ (lv_sub hl [1, 0] rfl)
  · refine lv_lookup (off := 74) (tgt := 100) hx hb dX4_isEscape_26 (by decide) (by rw [c_7]; rfl) (by decide) ?_
    exact C100  _ _ hh_6 (by first | omega | (refine ⟨?_, ?_⟩ <;> (first | omega | rfl | assumption | decide | exact Or.inl rfl | exact Or.inr rfl | (simp only; omega)))) _ (lv_sub hl [1, 0] rfl)
  · refine lv_lookup (off := 74) (tgt := 100) hx hb dX4_isEscape_26 (by decide) (by rw [c_7]; rfl) (by decide) ?_
    exact C100  _ _ hh_6 (by first | omega | (refine ⟨?_, ?_⟩ <;> (first | omega | rfl | assumption | decide | exact Or.inl rfl | exact Or.inr rfl | (simp only; omega)))) _ (lv_sub hl [1, 0] rfl)
  · refine lv_lookup (off := 81) (tgt := 107) hx hb dX4_isEscape_26 (by decide) (by rw [c_7]; rfl) (by decide) ?_
    refine lv_aload_n hx hb dX4_isEscape_107 rfl (lv_at hl 1 rfl) ?_
    refine lv_bipush (v := 8) hx hb dX4_isEscape_108 (by decide) ?_
    refine va_callv (A0 := jA base) (H0 := s.heap) (va_runV (As := [.int 8]) (rest := []) ⟨hx, hb, hml, hown, hts⟩ (uX4_addUnit l dC dI ca base B hB hAp hB6 hB146 G0 H_6 r0 8) (cwV 1 hts (jgV (jWr_21 _ (List.mem_of_getElem? (i := 13) rfl)) (jWr_21 _ (List.mem_of_getElem? (i := 14) rfl)) (jWr_21 _ (List.mem_of_getElem? (i := 15) rfl)) (jWr_1 _ (List.mem_of_getElem? (i := 22) rfl)) (jWr_21 _ (List.mem_of_getElem? (i := 16) rfl))) rfl rfl rfl (by decide +kernel) ⟨by rw [← hR]; exact Nat.le_of_ble_eq_true rfl, by rw [← hR]; exact Nat.le_of_ble_eq_true rfl⟩) ⟨fun a U g mk q => by obtain ⟨q0, q1, q2, qK, q10, q11, q12⟩ := q; exact ⟨q0, q1, q2, jG.calling g mk a qK, q10, q11, q12⟩, hh_6.recv (C := RX4) (T := TX4) (N := 12) hB6 rfl (by decide) hg_r0 hK, fun U hU hW => ⟨rfl, hU, hh_6.2.1, hG.step hW hU hh_6.1, hg_r0, jP.nil, trivial⟩⟩ rfl rfl hl.1 rfl (lv_room (Nat.le_of_ble_eq_true rfl)) dX4_isEscape_110 ⟨Nat.zero_le _, Nat.zero_le _⟩) hh_6.1 (fun q _ h => h) (fun q h => h) (fun u_11 t_11 H_11 locs_11 ht_11 hvm_11 hr_12 hb_11 hz_11 hk_11 hS_11 => ?_)
    rw [ht_11] at hb_11
    obtain ⟨hb_111, hb_112, hb_113, hb_114, hb_115⟩ := hb_11
    have hh_11 : jSt (dC, dI) B base G0 G0 EX4_isEscape s.heap 0 0 [(r0, 6, 11, .int z_5), (r0, 6, 9, .ref rb), (r0, 6, 10, .int pe)] [] [] H_11 locs_11 := ((hh_6.call hb_111 hb_112 hb_113 hb_114 hS_11 rfl (L1 := [(r0, 6, 11, .int z_5), (r0, 6, 9, .ref rb), (r0, 6, 10, .int pe)]) [0, 1, 2] rfl rfl (M1 := []) [] rfl rfl (I1 := []) [] rfl rfl).more hb_115)
    clear hh_6 ht_11 hvm_11 hz_11 hk_11 hS_11 hb_111 hb_112 hb_113 hb_114 hb_115
    refine lv_iconst (v := 1) hx hb dX4_isEscape_113 (by decide) ?_
    rw [hQ]
    exact W.zret (v := 1) hx hb hr (jb_nz (Or.inr rfl)) (fun t ht hW => ⟨⟨1, z_5, rfl, ⟨(Or.inr rfl), by first | omega | (refine ⟨?_, ?_⟩ <;> (first | omega | rfl | assumption | decide | exact Or.inl rfl | exact Or.inr rfl | (simp only; omega)))⟩, hh_11.rt (M1 := [(r0, 6, 11, .int z_5)]) [0] rfl ht⟩, by rw [ht]; try exact hh_11.1.1, fun q h9 hq => by rw [ht]; try exact hh_11.1.2.1 q h9 hq⟩) hh_11.1.2.2 dX4_isEscape_114
  · refine lv_lookup (off := 89) (tgt := 115) hx hb dX4_isEscape_26 (by decide) (by rw [c_7]; rfl) (by decide) ?_
    refine lv_aload_n hx hb dX4_isEscape_115 rfl (lv_at hl 1 rfl) ?_
    refine lv_bipush (v := 12) hx hb dX4_isEscape_116 (by decide) ?_
    refine va_callv (A0 := jA base) (H0 := s.heap) (va_runV (As := [.int 12]) (rest := []) ⟨hx, hb, hml, hown, hts⟩ (uX4_addUnit l dC dI ca base B hB hAp hB6 hB146 G0 H_6 r0 12) (cwV 1 hts (jgV (jWr_21 _ (List.mem_of_getElem? (i := 13) rfl)) (jWr_21 _ (List.mem_of_getElem? (i := 14) rfl)) (jWr_21 _ (List.mem_of_getElem? (i := 15) rfl)) (jWr_1 _ (List.mem_of_getElem? (i := 22) rfl)) (jWr_21 _ (List.mem_of_getElem? (i := 16) rfl))) rfl rfl rfl (by decide +kernel) ⟨by rw [← hR]; exact Nat.le_of_ble_eq_true rfl, by rw [← hR]; exact Nat.le_of_ble_eq_true rfl⟩) ⟨fun a U g mk q => by obtain ⟨q0, q1, q2, qK, q10, q11, q12⟩ := q; exact ⟨q0, q1, q2, jG.calling g mk a qK, q10, q11, q12⟩, hh_6.recv (C := RX4) (T := TX4) (N := 12) hB6 rfl (by decide) hg_r0 hK, fun U hU hW => ⟨rfl, hU, hh_6.2.1, hG.step hW hU hh_6.1, hg_r0, jP.nil, trivial⟩⟩ rfl rfl hl.1 rfl (lv_room (Nat.le_of_ble_eq_true rfl)) dX4_isEscape_118 ⟨Nat.zero_le _, Nat.zero_le _⟩) hh_6.1 (fun q _ h => h) (fun q h => h) (fun u_13 t_13 H_13 locs_13 ht_13 hvm_13 hr_14 hb_13 hz_13 hk_13 hS_13 => ?_)
    rw [ht_13] at hb_13
    obtain ⟨hb_131, hb_132, hb_133, hb_134, hb_135⟩ := hb_13
    have hh_13 : jSt (dC, dI) B base G0 G0 EX4_isEscape s.heap 0 0 [(r0, 6, 11, .int z_5), (r0, 6, 9, .ref rb), (r0, 6, 10, .int pe)] [] [] H_13 locs_13 := ((hh_6.call hb_131 hb_132 hb_133 hb_134 hS_13 rfl (L1 := [(r0, 6, 11, .int z_5), (r0, 6, 9, .ref rb), (r0, 6, 10, .int pe)]) [0, 1, 2] rfl rfl (M1 := []) [] rfl rfl (I1 := []) [] rfl rfl).more hb_135)
    clear hh_6 ht_13 hvm_13 hz_13 hk_13 hS_13 hb_131 hb_132 hb_133 hb_134 hb_135
    refine lv_iconst (v := 1) hx hb dX4_isEscape_121 (by decide) ?_
    rw [hQ]
    exact W.zret (v := 1) hx hb hr (jb_nz (Or.inr rfl)) (fun t ht hW => ⟨⟨1, z_5, rfl, ⟨(Or.inr rfl), by first | omega | (refine ⟨?_, ?_⟩ <;> (first | omega | rfl | assumption | decide | exact Or.inl rfl | exact Or.inr rfl | (simp only; omega)))⟩, hh_13.rt (M1 := [(r0, 6, 11, .int z_5)]) [0] rfl ht⟩, by rw [ht]; try exact hh_13.1.1, fun q h9 hq => by rw [ht]; try exact hh_13.1.2.1 q h9 hq⟩) hh_13.1.2.2 dX4_isEscape_122
  · refine lv_lookup (off := 97) (tgt := 123) hx hb dX4_isEscape_26 (by decide) (by rw [c_7]; rfl) (by decide) ?_
    refine lv_aload_n hx hb dX4_isEscape_123 rfl (lv_at hl 1 rfl) ?_
    refine lv_bipush (v := 10) hx hb dX4_isEscape_124 (by decide) ?_
    refine va_callv (A0 := jA base) (H0 := s.heap) (va_runV (As := [.int 10]) (rest := []) ⟨hx, hb, hml, hown, hts⟩ (uX4_addUnit l dC dI ca base B hB hAp hB6 hB146 G0 H_6 r0 10) (cwV 1 hts (jgV (jWr_21 _ (List.mem_of_getElem? (i := 13) rfl)) (jWr_21 _ (List.mem_of_getElem? (i := 14) rfl)) (jWr_21 _ (List.mem_of_getElem? (i := 15) rfl)) (jWr_1 _ (List.mem_of_getElem? (i := 22) rfl)) (jWr_21 _ (List.mem_of_getElem? (i := 16) rfl))) rfl rfl rfl (by decide +kernel) ⟨by rw [← hR]; exact Nat.le_of_ble_eq_true rfl, by rw [← hR]; exact Nat.le_of_ble_eq_true rfl⟩) ⟨fun a U g mk q => by obtain ⟨q0, q1, q2, qK, q10, q11, q12⟩ := q; exact ⟨q0, q1, q2, jG.calling g mk a qK, q10, q11, q12⟩, hh_6.recv (C := RX4) (T := TX4) (N := 12) hB6 rfl (by decide) hg_r0 hK, fun U hU hW => ⟨rfl, hU, hh_6.2.1, hG.step hW hU hh_6.1, hg_r0, jP.nil, trivial⟩⟩ rfl rfl hl.1 rfl (lv_room (Nat.le_of_ble_eq_true rfl)) dX4_isEscape_126 ⟨Nat.zero_le _, Nat.zero_le _⟩) hh_6.1 (fun q _ h => h) (fun q h => h) (fun u_15 t_15 H_15 locs_15 ht_15 hvm_15 hr_16 hb_15 hz_15 hk_15 hS_15 => ?_)
    rw [ht_15] at hb_15
    obtain ⟨hb_151, hb_152, hb_153, hb_154, hb_155⟩ := hb_15
    have hh_15 : jSt (dC, dI) B base G0 G0 EX4_isEscape s.heap 0 0 [(r0, 6, 11, .int z_5), (r0, 6, 9, .ref rb), (r0, 6, 10, .int pe)] [] [] H_15 locs_15 := ((hh_6.call hb_151 hb_152 hb_153 hb_154 hS_15 rfl (L1 := [(r0, 6, 11, .int z_5), (r0, 6, 9, .ref rb), (r0, 6, 10, .int pe)]) [0, 1, 2] rfl rfl (M1 := []) [] rfl rfl (I1 := []) [] rfl rfl).more hb_155)
    clear hh_6 ht_15 hvm_15 hz_15 hk_15 hS_15 hb_151 hb_152 hb_153 hb_154 hb_155
    refine lv_iconst (v := 1) hx hb dX4_isEscape_129 (by decide) ?_
    rw [hQ]
    exact W.zret (v := 1) hx hb hr (jb_nz (Or.inr rfl)) (fun t ht hW => ⟨⟨1, z_5, rfl, ⟨(Or.inr rfl), by first | omega | (refine ⟨?_, ?_⟩ <;> (first | omega | rfl | assumption | decide | exact Or.inl rfl | exact Or.inr rfl | (simp only; omega)))⟩, hh_15.rt (M1 := [(r0, 6, 11, .int z_5)]) [0] rfl ht⟩, by rw [ht]; try exact hh_15.1.1, fun q h9 hq => by rw [ht]; try exact hh_15.1.2.1 q h9 hq⟩) hh_15.1.2.2 dX4_isEscape_130
  · refine lv_lookup (off := 105) (tgt := 131) hx hb dX4_isEscape_26 (by decide) (by rw [c_7]; rfl) (by decide) ?_
    refine lv_aload_n hx hb dX4_isEscape_131 rfl (lv_at hl 1 rfl) ?_
    refine lv_bipush (v := 13) hx hb dX4_isEscape_132 (by decide) ?_
    refine va_callv (A0 := jA base) (H0 := s.heap) (va_runV (As := [.int 13]) (rest := []) ⟨hx, hb, hml, hown, hts⟩ (uX4_addUnit l dC dI ca base B hB hAp hB6 hB146 G0 H_6 r0 13) (cwV 1 hts (jgV (jWr_21 _ (List.mem_of_getElem? (i := 13) rfl)) (jWr_21 _ (List.mem_of_getElem? (i := 14) rfl)) (jWr_21 _ (List.mem_of_getElem? (i := 15) rfl)) (jWr_1 _ (List.mem_of_getElem? (i := 22) rfl)) (jWr_21 _ (List.mem_of_getElem? (i := 16) rfl))) rfl rfl rfl (by decide +kernel) ⟨by rw [← hR]; exact Nat.le_of_ble_eq_true rfl, by rw [← hR]; exact Nat.le_of_ble_eq_true rfl⟩) ⟨fun a U g mk q => by obtain ⟨q0, q1, q2, qK, q10, q11, q12⟩ := q; exact ⟨q0, q1, q2, jG.calling g mk a qK, q10, q11, q12⟩, hh_6.recv (C := RX4) (T := TX4) (N := 12) hB6 rfl (by decide) hg_r0 hK, fun U hU hW => ⟨rfl, hU, hh_6.2.1, hG.step hW hU hh_6.1, hg_r0, jP.nil, trivial⟩⟩ rfl rfl hl.1 rfl (lv_room (Nat.le_of_ble_eq_true rfl)) dX4_isEscape_134 ⟨Nat.zero_le _, Nat.zero_le _⟩) hh_6.1 (fun q _ h => h) (fun q h => h) (fun u_17 t_17 H_17 locs_17 ht_17 hvm_17 hr_18 hb_17 hz_17 hk_17 hS_17 => ?_)
    rw [ht_17] at hb_17
    obtain ⟨hb_171, hb_172, hb_173, hb_174, hb_175⟩ := hb_17
    have hh_17 : jSt (dC, dI) B base G0 G0 EX4_isEscape s.heap 0 0 [(r0, 6, 11, .int z_5), (r0, 6, 9, .ref rb), (r0, 6, 10, .int pe)] [] [] H_17 locs_17 := ((hh_6.call hb_171 hb_172 hb_173 hb_174 hS_17 rfl (L1 := [(r0, 6, 11, .int z_5), (r0, 6, 9, .ref rb), (r0, 6, 10, .int pe)]) [0, 1, 2] rfl rfl (M1 := []) [] rfl rfl (I1 := []) [] rfl rfl).more hb_175)
    clear hh_6 ht_17 hvm_17 hz_17 hk_17 hS_17 hb_171 hb_172 hb_173 hb_174 hb_175
    refine lv_iconst (v := 1) hx hb dX4_isEscape_137 (by decide) ?_
    rw [hQ]
    exact W.zret (v := 1) hx hb hr (jb_nz (Or.inr rfl)) (fun t ht hW => ⟨⟨1, z_5, rfl, ⟨(Or.inr rfl), by first | omega | (refine ⟨?_, ?_⟩ <;> (first | omega | rfl | assumption | decide | exact Or.inl rfl | exact Or.inr rfl | (simp only; omega)))⟩, hh_17.rt (M1 := [(r0, 6, 11, .int z_5)]) [0] rfl ht⟩, by rw [ht]; try exact hh_17.1.1, fun q h9 hq => by rw [ht]; try exact hh_17.1.2.1 q h9 hq⟩) hh_17.1.2.2 dX4_isEscape_138
  · refine lv_lookup (off := 113) (tgt := 139) hx hb dX4_isEscape_26 (by decide) (by rw [c_7]; rfl) (by decide) ?_
    refine lv_aload_n hx hb dX4_isEscape_139 rfl (lv_at hl 1 rfl) ?_
    refine lv_bipush (v := 9) hx hb dX4_isEscape_140 (by decide) ?_
    refine va_callv (A0 := jA base) (H0 := s.heap) (va_runV (As := [.int 9]) (rest := []) ⟨hx, hb, hml, hown, hts⟩ (uX4_addUnit l dC dI ca base B hB hAp hB6 hB146 G0 H_6 r0 9) (cwV 1 hts (jgV (jWr_21 _ (List.mem_of_getElem? (i := 13) rfl)) (jWr_21 _ (List.mem_of_getElem? (i := 14) rfl)) (jWr_21 _ (List.mem_of_getElem? (i := 15) rfl)) (jWr_1 _ (List.mem_of_getElem? (i := 22) rfl)) (jWr_21 _ (List.mem_of_getElem? (i := 16) rfl))) rfl rfl rfl (by decide +kernel) ⟨by rw [← hR]; exact Nat.le_of_ble_eq_true rfl, by rw [← hR]; exact Nat.le_of_ble_eq_true rfl⟩) ⟨fun a U g mk q => by obtain ⟨q0, q1, q2, qK, q10, q11, q12⟩ := q; exact ⟨q0, q1, q2, jG.calling g mk a qK, q10, q11, q12⟩, hh_6.recv (C := RX4) (T := TX4) (N := 12) hB6 rfl (by decide) hg_r0 hK, fun U hU hW => ⟨rfl, hU, hh_6.2.1, hG.step hW hU hh_6.1, hg_r0, jP.nil, trivial⟩⟩ rfl rfl hl.1 rfl (lv_room (Nat.le_of_ble_eq_true rfl)) dX4_isEscape_142 ⟨Nat.zero_le _, Nat.zero_le _⟩) hh_6.1 (fun q _ h => h) (fun q h => h) (fun u_19 t_19 H_19 locs_19 ht_19 hvm_19 hr_20 hb_19 hz_19 hk_19 hS_19 => ?_)
    rw [ht_19] at hb_19
    obtain ⟨hb_191, hb_192, hb_193, hb_194, hb_195⟩ := hb_19
    have hh_19 : jSt (dC, dI) B base G0 G0 EX4_isEscape s.heap 0 0 [(r0, 6, 11, .int z_5), (r0, 6, 9, .ref rb), (r0, 6, 10, .int pe)] [] [] H_19 locs_19 := ((hh_6.call hb_191 hb_192 hb_193 hb_194 hS_19 rfl (L1 := [(r0, 6, 11, .int z_5), (r0, 6, 9, .ref rb), (r0, 6, 10, .int pe)]) [0, 1, 2] rfl rfl (M1 := []) [] rfl rfl (I1 := []) [] rfl rfl).more hb_195)
    clear hh_6 ht_19 hvm_19 hz_19 hk_19 hS_19 hb_191 hb_192 hb_193 hb_194 hb_195
    refine lv_iconst (v := 1) hx hb dX4_isEscape_145 (by decide) ?_
    rw [hQ]
    exact W.zret (v := 1) hx hb hr (jb_nz (Or.inr rfl)) (fun t ht hW => ⟨⟨1, z_5, rfl, ⟨(Or.inr rfl), by first | omega | (refine ⟨?_, ?_⟩ <;> (first | omega | rfl | assumption | decide | exact Or.inl rfl | exact Or.inr rfl | (simp only; omega)))⟩, hh_19.rt (M1 := [(r0, 6, 11, .int z_5)]) [0] rfl ht⟩, by rw [ht]; try exact hh_19.1.1, fun q h9 hq => by rw [ht]; try exact hh_19.1.2.1 q h9 hq⟩) hh_19.1.2.2 dX4_isEscape_146
set_option maxHeartbeats 4000000 in
set_option maxRecDepth 20000 in
theorem uX4_isUnitEscape (l : Launch) (dC : Nat → ClassId) (dI : Nat → Nat → Nat) (ca : Nat → ClassId) (base : Nat) (B : jF) (hB : jBok B) (hAp : jAp (dC, dI)) (hB6 : ∀ n G a H, B 6 n G a H ↔ jOb (dC, dI) 6 12 (F6 n G) a H) (hB100 : ∀ n G a H, B 100 n G a H ↔ jAr (dC, dI) (ca 0) (fun j z => True) n a H) (hB146 : ∀ n G a H, B 146 n G a H ↔ jAr (dC, dI) (ca 1) (fun j z => True) n a H) (G0 : jT) (H0 : Heap) (r0 : Nat) (rb : Nat) (n_rb : Nat) (pe : Int32) (pt : Int32) : Met l yX4_isUnitEscape (jw yX4_isUnitEscape cX4_isUnitEscape 3 (some .boolean)) ({ frames := 5, cells := 0, slots := 0, locals := 163 }) (va_Pc [.ref r0] (fun U => U.heap = H0 ∧ jX B base G0 [] H0 ∧ jG dC dI ca base U ∧ G0 r0 = some (6, 0) ∧ G0 rb = some (100, n_rb) ∧ jP (dC, dI) G0 H0 [(r0, 6, 9, .ref rb), (r0, 6, 10, .int pe), (r0, 6, 11, .int pt)] ∧ 0 ≤ pe.toInt ∧ pe.toInt ≤ n_rb ∧ n_rb ≤ 3000 ∧ 0 ≤ pt.toInt ∧ pt.toInt ≤ 19000 ∧ pt.toInt ≤ pe.toInt)) (va_Qi (S := Int32) (fun r u => (r = 0 ∨ r = 1) ∧ (pt.toInt ≤ u.toInt ∧ u.toInt ≤ pe.toInt)) (fun u t => jRt (dC, dI) B base G0 EX4_isUnitEscape H0 [(r0, 6, 11, .int u)] t.heap) (jA base)) 0 0 (jA base) := by
  refine Met.ofW (cc := cX4_isUnitEscape) (maxL := 3) (ret := (some .boolean)) (by decide) rfl ?_
  intro p e s m args below meth c s₁ Bd hml hv
  obtain ⟨rfl, hH0, hX, hG, hg_r0, hg_rb, hP0, hp0, hp1, hp2, hp3, hp4, hp5⟩ := hv
  have hK := hG.1
  have hx := Bd.exec
  have hb := Bd.bytes
  have hr := Bd.returns
  have hts := atoms_spec (ws := (jw yX4_isUnitEscape cX4_isUnitEscape 3 (some .boolean))) Bd.pre
  have htw : ∀ w ∈ jWl, w.before _ s = true := fun w h => hts w (List.mem_cons_of_mem _ h)
  have hown : s.vm.findClass RX4 = some m.cls := findClass_of_methodNamed Bd.named
  have hlocks := Bd.notSynchronized
  obtain ⟨Q, hQ⟩ : ∃ Q, Q = MQ below (va_Qi (S := Int32) (fun r u => (r = 0 ∨ r = 1) ∧ (pt.toInt ≤ u.toInt ∧ u.toInt ≤ pe.toInt)) (fun u t => jRt (dC, dI) B base G0 EX4_isUnitEscape H0 [(r0, 6, 11, .int u)] t.heap) (jA base)) ([.ref r0] : List Value).toArray s 0 0 (jA base) := ⟨_, rfl⟩
  rw [← hQ]
  have hl := lv_entry ([.ref r0]) (n := 3) (Nat.le_of_ble_eq_true rfl)
  rw [lg_entry_eq]
  generalize (lg_sl ([.ref r0]) ++ List.replicate (3 - (lg_sl ([.ref r0])).length) Slot.unset).toArray = ls at hl ⊢
  have hl : lv_has ls 3 [(0, .ref r0)] := hl
  generalize hR : (headSpec (jw yX4_isUnitEscape cX4_isUnitEscape 3 (some .boolean)) ({ frames := 5, cells := 0, slots := 0, locals := 163 })).room = R
  subst hH0
  have hh : jSt (dC, dI) B base G0 G0 EX4_isUnitEscape s.heap 0 0 [(r0, 6, 9, .ref rb), (r0, 6, 10, .int pe), (r0, 6, 11, .int pt)] [] [] s.heap [] := jSt.start hX hP0 jMc.nil jIs.nil
  clear hX hP0
  have hk0 : (0 : Int32).toInt = 0 := by decide
  have hk1 : (1 : Int32).toInt = 1 := by decide
  obtain ⟨str146, rstr146, hstr1460⟩ := hG.str (o := RX4) (k := 146) (tx := "\\u") (List.mem_of_getElem? (i := 667) (by decide +kernel))
  have hstr146 : jStr base str146 2 s s.heap := hstr1460
  refine lv_aload_n hx hb dX4_isUnitEscape_0 rfl (lv_at hl 0 rfl) ?_
  refine va_calli (A0 := jA base) (H0 := s.heap) (va_runV (As := []) (rest := []) ⟨hx, hb, hml, hown, hts⟩ (uX4_fourDigits l dC dI ca base B hB hAp hB6 hB100 G0 s.heap r0 rb n_rb pe pt) (cwV 0 hts (jgV (jWr_21 _ (List.mem_of_getElem? (i := 5) rfl)) (jWr_21 _ (List.mem_of_getElem? (i := 6) rfl)) (jWr_21 _ (List.mem_of_getElem? (i := 7) rfl)) (jWr_1 _ (List.mem_of_getElem? (i := 22) rfl)) (jWr_21 _ (List.mem_of_getElem? (i := 8) rfl))) rfl rfl rfl (by decide +kernel) ⟨by rw [← hR]; exact Nat.le_of_ble_eq_true rfl, by rw [← hR]; exact Nat.le_of_ble_eq_true rfl⟩) ⟨fun a U g mk q => by obtain ⟨q0, q1, q2, qK, q10, q11, q12, q13⟩ := q; exact ⟨q0, q1, q2, jG.calling g mk a qK, q10, q11, q12, q13⟩, hh.recv (C := RX4) (T := TX4) (N := 12) hB6 rfl (by decide) hg_r0 hK, fun U hU hW => ⟨rfl, hU, hh.2.1, hG.step hW hU hh.1, hg_r0, hg_rb, (hh.2.2.1.sub (L1 := [(r0, 6, 9, .ref rb), (r0, 6, 10, .int pe), (r0, 6, 11, .int pt)]) [0, 1, 2] rfl), by first | omega | (refine ⟨?_, ?_, ?_, ?_, ?_, ?_⟩ <;> (first | omega | rfl | assumption | decide | exact Or.inl rfl | exact Or.inr rfl | (simp only; omega)))⟩⟩ rfl rfl hl.1 rfl (lv_room (Nat.le_of_ble_eq_true rfl)) dX4_isUnitEscape_1 ⟨Nat.zero_le _, Nat.zero_le _⟩) hh.1 (fun q _ h => h) (fun q h => h) (fun r_2 u_1 t_1 H_1 locs_1 ht_1 hvm_1 hr_2 hb_1 hz_1 hk_1 hS_1 => ?_)
  obtain ⟨qt_1, rfl⟩ : ∃ z, z = u_1 := ⟨_, rfl⟩
  rw [ht_1] at hb_1
  obtain ⟨hb_11, hb_12, hb_13, hb_14, hb_15⟩ := hb_1
  have hh_1 : jSt (dC, dI) B base G0 G0 EX4_isUnitEscape s.heap 0 0 [(r0, 6, 11, .int qt_1), (r0, 6, 9, .ref rb), (r0, 6, 10, .int pe)] [] [] H_1 locs_1 := ((hh.call hb_11 hb_12 hb_13 hb_14 hS_1 rfl (L1 := [(r0, 6, 9, .ref rb), (r0, 6, 10, .int pe)]) [0, 1] rfl rfl (M1 := []) [] rfl rfl (I1 := []) [] rfl rfl).more hb_15)
  clear hh ht_1 hvm_1 hz_1 hk_1 hS_1 hb_11 hb_12 hb_13 hb_14 hb_15
  obtain ⟨hr_2_0, hr_2_1⟩ := hr_2
  refine lv_istore_n (lv' := [(1, .int r_2), (0, .ref r0)]) hx hb dX4_isUnitEscape_4 rfl hl (by decide) rfl (fun ls hl => ?_)
  refine lv_iload_n hx hb dX4_isUnitEscape_5 rfl (lv_at hl 0 rfl) ?_
  refine lv_if_lt (tgt := 16) hx hb dX4_isUnitEscape_6 (by decide) (fun c_3 => ?_) (fun c_3 => ?_)
  · skip
    have c_3' : r_2.toInt < 0 := jb_lt (rfl) ((by decide)) c_3
    refine lv_iconst (v := 0) hx hb dX4_isUnitEscape_16 (by decide) ?_
    rw [hQ]
    exact W.zret (v := 0) hx hb hr (jb_nz (Or.inl rfl)) (fun t ht hW => ⟨⟨0, qt_1, rfl, ⟨(Or.inl rfl), by first | omega | (refine ⟨?_, ?_⟩ <;> (first | omega | rfl | assumption | decide | exact Or.inl rfl | exact Or.inr rfl | (simp only; omega)))⟩, hh_1.rt (M1 := [(r0, 6, 11, .int qt_1)]) [0] rfl ht⟩, by rw [ht]; try exact hh_1.1.1, fun q h9 hq => by rw [ht]; try exact hh_1.1.2.1 q h9 hq⟩) hh_1.1.2.2 dX4_isUnitEscape_17
  · skip
    have c_3' : r_2.toInt ≥ 0 := jb_lt_n (rfl) ((by decide)) c_3
    refine lv_iload_n hx hb dX4_isUnitEscape_9 rfl (lv_at hl 0 rfl) ?_
    refine vp_callSi (W.runS (As := [.int r_2]) (rest := []) ⟨hx, hb, hml, hown, hts⟩ (wX0_isLow l dC dI ca base H_1 r_2) (va_cwS 1 hts (jgS (jWr_21 _ (List.mem_of_getElem? (i := 9) rfl)) (jWr_21 _ (List.mem_of_getElem? (i := 10) rfl)) (jWr_1 _ (List.mem_of_getElem? (i := 14) rfl)) (jWr_21 _ (List.mem_of_getElem? (i := 11) rfl))) rfl rfl rfl (by decide +kernel) ⟨by rw [← hR]; exact Nat.le_of_ble_eq_true rfl, by rw [← hR]; exact Nat.le_of_ble_eq_true rfl⟩) ⟨fun a U g mk q => by obtain ⟨q0, q1, qK, q9⟩ := q; exact ⟨q0, q1, jG.calling g mk a qK, q9⟩, fun U hU hW => ⟨rfl, hU, hG.step hW hU hh_1.1, by first | trivial | omega | (constructor <;> omega)⟩⟩ rfl rfl hl.1 rfl (lv_room (Nat.le_of_ble_eq_true rfl)) dX4_isUnitEscape_10 ⟨Nat.zero_le _, Nat.zero_le _⟩) (fun r_4 hr_4 => ?_)
    have hr_4' : r_4.toInt = 0 ∨ r_4.toInt = 1 := jb_01 hr_4
    refine lv_if_eq (tgt := 18) hx hb dX4_isUnitEscape_13 (by decide) (fun c_5 => ?_) (fun c_5 => ?_)
    · skip
      have c_5' : r_4.toInt = 0 := jb_eq (rfl) ((by decide)) c_5
      refine lv_aload_n hx hb dX4_isUnitEscape_18 rfl (lv_at hl 1 rfl) ?_
      refine lv_iload_n hx hb dX4_isUnitEscape_19 rfl (lv_at hl 0 rfl) ?_
      refine va_callv (A0 := jA base) (H0 := s.heap) (va_runV (As := [.int r_2]) (rest := []) ⟨hx, hb, hml, hown, hts⟩ (uX4_addUnit l dC dI ca base B hB hAp hB6 hB146 G0 H_1 r0 r_2) (cwV 1 hts (jgV (jWr_21 _ (List.mem_of_getElem? (i := 13) rfl)) (jWr_21 _ (List.mem_of_getElem? (i := 14) rfl)) (jWr_21 _ (List.mem_of_getElem? (i := 15) rfl)) (jWr_1 _ (List.mem_of_getElem? (i := 22) rfl)) (jWr_21 _ (List.mem_of_getElem? (i := 16) rfl))) rfl rfl rfl (by decide +kernel) ⟨by rw [← hR]; exact Nat.le_of_ble_eq_true rfl, by rw [← hR]; exact Nat.le_of_ble_eq_true rfl⟩) ⟨fun a U g mk q => by obtain ⟨q0, q1, q2, qK, q10, q11, q12⟩ := q; exact ⟨q0, q1, q2, jG.calling g mk a qK, q10, q11, q12⟩, hh_1.recv (C := RX4) (T := TX4) (N := 12) hB6 rfl (by decide) hg_r0 hK, fun U hU hW => ⟨rfl, hU, hh_1.2.1, hG.step hW hU hh_1.1, hg_r0, jP.nil, trivial⟩⟩ rfl rfl hl.1 rfl (lv_room (Nat.le_of_ble_eq_true rfl)) dX4_isUnitEscape_20 ⟨Nat.zero_le _, Nat.zero_le _⟩) hh_1.1 (fun q _ h => h) (fun q h => h) (fun u_6 t_6 H_6 locs_6 ht_6 hvm_6 hr_7 hb_6 hz_6 hk_6 hS_6 => ?_)
      rw [ht_6] at hb_6
      obtain ⟨hb_61, hb_62, hb_63, hb_64, hb_65⟩ := hb_6
      have hh_6 : jSt (dC, dI) B base G0 G0 EX4_isUnitEscape s.heap 0 0 [(r0, 6, 11, .int qt_1), (r0, 6, 9, .ref rb), (r0, 6, 10, .int pe)] [] [] H_6 locs_6 := ((hh_1.call hb_61 hb_62 hb_63 hb_64 hS_6 rfl (L1 := [(r0, 6, 11, .int qt_1), (r0, 6, 9, .ref rb), (r0, 6, 10, .int pe)]) [0, 1, 2] rfl rfl (M1 := []) [] rfl rfl (I1 := []) [] rfl rfl).more hb_65)
      clear hh_1 ht_6 hvm_6 hz_6 hk_6 hS_6 hb_61 hb_62 hb_63 hb_64 hb_65
      refine lv_iload_n hx hb dX4_isUnitEscape_23 rfl (lv_at hl 0 rfl) ?_
      refine vp_callSi (W.runS (As := [.int r_2]) (rest := []) ⟨hx, hb, hml, hown, hts⟩ (wX0_isHigh l dC dI ca base H_6 r_2) (va_cwS 1 hts (jgS (jWr_21 _ (List.mem_of_getElem? (i := 17) rfl)) (jWr_21 _ (List.mem_of_getElem? (i := 18) rfl)) (jWr_1 _ (List.mem_of_getElem? (i := 14) rfl)) (jWr_21 _ (List.mem_of_getElem? (i := 19) rfl))) rfl rfl rfl (by decide +kernel) ⟨by rw [← hR]; exact Nat.le_of_ble_eq_true rfl, by rw [← hR]; exact Nat.le_of_ble_eq_true rfl⟩) ⟨fun a U g mk q => by obtain ⟨q0, q1, qK, q9⟩ := q; exact ⟨q0, q1, jG.calling g mk a qK, q9⟩, fun U hU hW => ⟨rfl, hU, hG.step hW hU hh_6.1, by first | trivial | omega | (constructor <;> omega)⟩⟩ rfl rfl hl.1 rfl (lv_room (Nat.le_of_ble_eq_true rfl)) dX4_isUnitEscape_24 ⟨Nat.zero_le _, Nat.zero_le _⟩) (fun r_8 hr_8 => ?_)
      have hr_8' : r_8.toInt = 0 ∨ r_8.toInt = 1 := jb_01 hr_8
      refine lv_if_ne (tgt := 32) hx hb dX4_isUnitEscape_27 (by decide) (fun c_9 => ?_) (fun c_9 => ?_)
      · skip
        have c_9' : r_8.toInt ≠ 0 := jb_ne (rfl) ((by decide)) c_9
        refine lv_aload_n hx hb dX4_isUnitEscape_32 rfl (lv_at hl 1 rfl) ?_
        refine va_ldcS hx hb hown rstr146 dX4_isUnitEscape_33 ?_
        refine va_calli (A0 := jA base) (H0 := s.heap) (va_runV (As := [.ref str146]) (rest := []) ⟨hx, hb, hml, hown, hts⟩ (uX4_isWord l dC dI ca base B hB hAp hB6 hB100 G0 H_6 r0 str146 2 rb n_rb pe qt_1) (cwV 1 hts (jgV (jWr_20 _ (List.mem_of_getElem? (i := 19) rfl)) (jWr_20 _ (List.mem_of_getElem? (i := 20) rfl)) (jWr_20 _ (List.mem_of_getElem? (i := 21) rfl)) (jWr_1 _ (List.mem_of_getElem? (i := 22) rfl)) (jWr_20 _ (List.mem_of_getElem? (i := 22) rfl))) rfl rfl rfl (by decide +kernel) ⟨by rw [← hR]; exact Nat.le_of_ble_eq_true rfl, by rw [← hR]; exact Nat.le_of_ble_eq_true rfl⟩) ⟨fun a U g mk q => by obtain ⟨q0, q1, q2, qK, q10, q11, q12, q13, q14⟩ := q; exact ⟨q0, q1, q2, jG.calling g mk a qK, (q10.moved (Vm.Alike.refl U.vm)), q11, q12, q13, q14⟩, hh_6.recv (C := RX4) (T := TX4) (N := 12) hB6 rfl (by decide) hg_r0 hK, fun U hU hW => ⟨rfl, hU, hh_6.2.1, hG.step hW hU hh_6.1, (hstr146.moved hW.alike).kept hh_6.1.2.1, hg_r0, hg_rb, (hh_6.2.2.1.sub (L1 := [(r0, 6, 9, .ref rb), (r0, 6, 10, .int pe), (r0, 6, 11, .int qt_1)]) [1, 2, 0] rfl), by first | omega | (refine ⟨?_, ?_, ?_, ?_, ?_, ?_, ?_, ?_⟩ <;> (first | omega | rfl | assumption | decide | exact Or.inl rfl | exact Or.inr rfl | (simp only; omega)))⟩⟩ rfl rfl hl.1 rfl (lv_room (Nat.le_of_ble_eq_true rfl)) dX4_isUnitEscape_35 ⟨Nat.zero_le _, Nat.zero_le _⟩) hh_6.1 (fun q _ h => h) (fun q h => h) (fun r_11 u_10 t_10 H_10 locs_10 ht_10 hvm_10 hr_11 hb_10 hz_10 hk_10 hS_10 => ?_)
        obtain ⟨qt_10, rfl⟩ : ∃ z, z = u_10 := ⟨_, rfl⟩
        rw [ht_10] at hb_10
        obtain ⟨hb_101, hb_102, hb_103, hb_104, hb_105⟩ := hb_10
        have hh_10 : jSt (dC, dI) B base G0 G0 EX4_isUnitEscape s.heap 0 0 [(r0, 6, 11, .int qt_10), (r0, 6, 9, .ref rb), (r0, 6, 10, .int pe)] [] [] H_10 locs_10 := ((hh_6.call hb_101 hb_102 hb_103 hb_104 hS_10 rfl (L1 := [(r0, 6, 9, .ref rb), (r0, 6, 10, .int pe)]) [1, 2] rfl rfl (M1 := []) [] rfl rfl (I1 := []) [] rfl rfl).more hb_105)
        clear hh_6 ht_10 hvm_10 hz_10 hk_10 hS_10 hb_101 hb_102 hb_103 hb_104 hb_105
        obtain ⟨hr_11b, hr_11p⟩ := hr_11
        obtain ⟨hr_11p_0, hr_11p_1, hr_11p_2⟩ := hr_11p
        have hr_11' := jb_01 hr_11b
        refine lv_if_ne (tgt := 43) hx hb dX4_isUnitEscape_38 (by decide) (fun c_12 => ?_) (fun c_12 => ?_)
        · skip
          have c_12' : r_11.toInt ≠ 0 := jb_ne (rfl) ((by decide)) c_12
          refine lv_aload_n hx hb dX4_isUnitEscape_43 rfl (lv_at hl 1 rfl) ?_
          refine va_calli (A0 := jA base) (H0 := s.heap) (va_runV (As := []) (rest := []) ⟨hx, hb, hml, hown, hts⟩ (uX4_fourDigits l dC dI ca base B hB hAp hB6 hB100 G0 H_10 r0 rb n_rb pe qt_10) (cwV 0 hts (jgV (jWr_21 _ (List.mem_of_getElem? (i := 5) rfl)) (jWr_21 _ (List.mem_of_getElem? (i := 6) rfl)) (jWr_21 _ (List.mem_of_getElem? (i := 7) rfl)) (jWr_1 _ (List.mem_of_getElem? (i := 22) rfl)) (jWr_21 _ (List.mem_of_getElem? (i := 8) rfl))) rfl rfl rfl (by decide +kernel) ⟨by rw [← hR]; exact Nat.le_of_ble_eq_true rfl, by rw [← hR]; exact Nat.le_of_ble_eq_true rfl⟩) ⟨fun a U g mk q => by obtain ⟨q0, q1, q2, qK, q10, q11, q12, q13⟩ := q; exact ⟨q0, q1, q2, jG.calling g mk a qK, q10, q11, q12, q13⟩, hh_10.recv (C := RX4) (T := TX4) (N := 12) hB6 rfl (by decide) hg_r0 hK, fun U hU hW => ⟨rfl, hU, hh_10.2.1, hG.step hW hU hh_10.1, hg_r0, hg_rb, (hh_10.2.2.1.sub (L1 := [(r0, 6, 9, .ref rb), (r0, 6, 10, .int pe), (r0, 6, 11, .int qt_10)]) [1, 2, 0] rfl), by first | omega | (refine ⟨?_, ?_, ?_, ?_, ?_, ?_⟩ <;> (first | omega | rfl | assumption | decide | exact Or.inl rfl | exact Or.inr rfl | (simp only; omega)))⟩⟩ rfl rfl hl.1 rfl (lv_room (Nat.le_of_ble_eq_true rfl)) dX4_isUnitEscape_44 ⟨Nat.zero_le _, Nat.zero_le _⟩) hh_10.1 (fun q _ h => h) (fun q h => h) (fun r_14 u_13 t_13 H_13 locs_13 ht_13 hvm_13 hr_14 hb_13 hz_13 hk_13 hS_13 => ?_)
          obtain ⟨qt_13, rfl⟩ : ∃ z, z = u_13 := ⟨_, rfl⟩
          rw [ht_13] at hb_13
          obtain ⟨hb_131, hb_132, hb_133, hb_134, hb_135⟩ := hb_13
          have hh_13 : jSt (dC, dI) B base G0 G0 EX4_isUnitEscape s.heap 0 0 [(r0, 6, 11, .int qt_13), (r0, 6, 9, .ref rb), (r0, 6, 10, .int pe)] [] [] H_13 locs_13 := ((hh_10.call hb_131 hb_132 hb_133 hb_134 hS_13 rfl (L1 := [(r0, 6, 9, .ref rb), (r0, 6, 10, .int pe)]) [1, 2] rfl rfl (M1 := []) [] rfl rfl (I1 := []) [] rfl rfl).more hb_135)
          clear hh_10 ht_13 hvm_13 hz_13 hk_13 hS_13 hb_131 hb_132 hb_133 hb_134 hb_135
          obtain ⟨hr_14_0, hr_14_1⟩ := hr_14
          refine lv_istore_n (lv' := [(2, .int r_14), (1, .int r_2), (0, .ref r0)]) hx hb dX4_isUnitEscape_47 rfl hl (by decide) rfl (fun ls hl => ?_)
          refine lv_aload_n hx hb dX4_isUnitEscape_48 rfl (lv_at hl 2 rfl) ?_
          refine lv_iload_n hx hb dX4_isUnitEscape_49 rfl (lv_at hl 0 rfl) ?_
          refine va_callv (A0 := jA base) (H0 := s.heap) (va_runV (As := [.int r_14]) (rest := []) ⟨hx, hb, hml, hown, hts⟩ (uX4_addUnit l dC dI ca base B hB hAp hB6 hB146 G0 H_13 r0 r_14) (cwV 1 hts (jgV (jWr_21 _ (List.mem_of_getElem? (i := 13) rfl)) (jWr_21 _ (List.mem_of_getElem? (i := 14) rfl)) (jWr_21 _ (List.mem_of_getElem? (i := 15) rfl)) (jWr_1 _ (List.mem_of_getElem? (i := 22) rfl)) (jWr_21 _ (List.mem_of_getElem? (i := 16) rfl))) rfl rfl rfl (by decide +kernel) ⟨by rw [← hR]; exact Nat.le_of_ble_eq_true rfl, by rw [← hR]; exact Nat.le_of_ble_eq_true rfl⟩) ⟨fun a U g mk q => by obtain ⟨q0, q1, q2, qK, q10, q11, q12⟩ := q; exact ⟨q0, q1, q2, jG.calling g mk a qK, q10, q11, q12⟩, hh_13.recv (C := RX4) (T := TX4) (N := 12) hB6 rfl (by decide) hg_r0 hK, fun U hU hW => ⟨rfl, hU, hh_13.2.1, hG.step hW hU hh_13.1, hg_r0, jP.nil, trivial⟩⟩ rfl rfl hl.1 rfl (lv_room (Nat.le_of_ble_eq_true rfl)) dX4_isUnitEscape_50 ⟨Nat.zero_le _, Nat.zero_le _⟩) hh_13.1 (fun q _ h => h) (fun q h => h) (fun u_15 t_15 H_15 locs_15 ht_15 hvm_15 hr_16 hb_15 hz_15 hk_15 hS_15 => ?_)
          rw [ht_15] at hb_15
          obtain ⟨hb_151, hb_152, hb_153, hb_154, hb_155⟩ := hb_15
          have hh_15 : jSt (dC, dI) B base G0 G0 EX4_isUnitEscape s.heap 0 0 [(r0, 6, 11, .int qt_13), (r0, 6, 9, .ref rb), (r0, 6, 10, .int pe)] [] [] H_15 locs_15 := ((hh_13.call hb_151 hb_152 hb_153 hb_154 hS_15 rfl (L1 := [(r0, 6, 11, .int qt_13), (r0, 6, 9, .ref rb), (r0, 6, 10, .int pe)]) [0, 1, 2] rfl rfl (M1 := []) [] rfl rfl (I1 := []) [] rfl rfl).more hb_155)
          clear hh_13 ht_15 hvm_15 hz_15 hk_15 hS_15 hb_151 hb_152 hb_153 hb_154 hb_155
          refine lv_iload_n hx hb dX4_isUnitEscape_53 rfl (lv_at hl 0 rfl) ?_
          refine vp_callSi (W.runS (As := [.int r_14]) (rest := []) ⟨hx, hb, hml, hown, hts⟩ (wX0_isLow l dC dI ca base H_15 r_14) (va_cwS 1 hts (jgS (jWr_21 _ (List.mem_of_getElem? (i := 9) rfl)) (jWr_21 _ (List.mem_of_getElem? (i := 10) rfl)) (jWr_1 _ (List.mem_of_getElem? (i := 14) rfl)) (jWr_21 _ (List.mem_of_getElem? (i := 11) rfl))) rfl rfl rfl (by decide +kernel) ⟨by rw [← hR]; exact Nat.le_of_ble_eq_true rfl, by rw [← hR]; exact Nat.le_of_ble_eq_true rfl⟩) ⟨fun a U g mk q => by obtain ⟨q0, q1, qK, q9⟩ := q; exact ⟨q0, q1, jG.calling g mk a qK, q9⟩, fun U hU hW => ⟨rfl, hU, hG.step hW hU hh_15.1, by first | trivial | omega | (constructor <;> omega)⟩⟩ rfl rfl hl.1 rfl (lv_room (Nat.le_of_ble_eq_true rfl)) dX4_isUnitEscape_54 ⟨Nat.zero_le _, Nat.zero_le _⟩) (fun r_17 hr_17 => ?_)
          have hr_17' : r_17.toInt = 0 ∨ r_17.toInt = 1 := jb_01 hr_17
          rw [hQ]
          exact W.zret (v := r_17) hx hb hr (jb_nz (hr_17)) (fun t ht hW => ⟨⟨r_17, qt_13, rfl, ⟨(hr_17), by first | omega | (refine ⟨?_, ?_⟩ <;> (first | omega | rfl | assumption | decide | exact Or.inl rfl | exact Or.inr rfl | (simp only; omega)))⟩, hh_15.rt (M1 := [(r0, 6, 11, .int qt_13)]) [0] rfl ht⟩, by rw [ht]; try exact hh_15.1.1, fun q h9 hq => by rw [ht]; try exact hh_15.1.2.1 q h9 hq⟩) hh_15.1.2.2 dX4_isUnitEscape_57
        · skip
          have c_12' : r_11.toInt = 0 := jb_ne_n (rfl) ((by decide)) c_12
          refine lv_iconst (v := 0) hx hb dX4_isUnitEscape_41 (by decide) ?_
          rw [hQ]
          exact W.zret (v := 0) hx hb hr (jb_nz (Or.inl rfl)) (fun t ht hW => ⟨⟨0, qt_10, rfl, ⟨(Or.inl rfl), by first | omega | (refine ⟨?_, ?_⟩ <;> (first | omega | rfl | assumption | decide | exact Or.inl rfl | exact Or.inr rfl | (simp only; omega)))⟩, hh_10.rt (M1 := [(r0, 6, 11, .int qt_10)]) [0] rfl ht⟩, by rw [ht]; try exact hh_10.1.1, fun q h9 hq => by rw [ht]; try exact hh_10.1.2.1 q h9 hq⟩) hh_10.1.2.2 dX4_isUnitEscape_42
      · skip
        have c_9' : r_8.toInt = 0 := jb_ne_n (rfl) ((by decide)) c_9
        refine lv_iconst (v := 1) hx hb dX4_isUnitEscape_30 (by decide) ?_
        rw [hQ]
        exact W.zret (v := 1) hx hb hr (jb_nz (Or.inr rfl)) (fun t ht hW => ⟨⟨1, qt_1, rfl, ⟨(Or.inr rfl), by first | omega | (refine ⟨?_, ?_⟩ <;> (first | omega | rfl | assumption | decide | exact Or.inl rfl | exact Or.inr rfl | (simp only; omega)))⟩, hh_6.rt (M1 := [(r0, 6, 11, .int qt_1)]) [0] rfl ht⟩, by rw [ht]; try exact hh_6.1.1, fun q h9 hq => by rw [ht]; try exact hh_6.1.2.1 q h9 hq⟩) hh_6.1.2.2 dX4_isUnitEscape_31
    · skip
      have c_5' : r_4.toInt ≠ 0 := jb_eq_n (rfl) ((by decide)) c_5
      refine lv_iconst (v := 0) hx hb dX4_isUnitEscape_16 (by decide) ?_
      rw [hQ]
      exact W.zret (v := 0) hx hb hr (jb_nz (Or.inl rfl)) (fun t ht hW => ⟨⟨0, qt_1, rfl, ⟨(Or.inl rfl), by first | omega | (refine ⟨?_, ?_⟩ <;> (first | omega | rfl | assumption | decide | exact Or.inl rfl | exact Or.inr rfl | (simp only; omega)))⟩, hh_1.rt (M1 := [(r0, 6, 11, .int qt_1)]) [0] rfl ht⟩, by rw [ht]; try exact hh_1.1.1, fun q h9 hq => by rw [ht]; try exact hh_1.1.2.1 q h9 hq⟩) hh_1.1.2.2 dX4_isUnitEscape_17
set_option maxHeartbeats 4000000 in
set_option maxRecDepth 20000 in
theorem uX4_isString (l : Launch) (dC : Nat → ClassId) (dI : Nat → Nat → Nat) (ca : Nat → ClassId) (base : Nat) (B : jF) (hB : jBok B) (hAp : jAp (dC, dI)) (hB6 : ∀ n G a H, B 6 n G a H ↔ jOb (dC, dI) 6 12 (F6 n G) a H) (hB100 : ∀ n G a H, B 100 n G a H ↔ jAr (dC, dI) (ca 0) (fun j z => True) n a H) (hB146 : ∀ n G a H, B 146 n G a H ↔ jAr (dC, dI) (ca 1) (fun j z => True) n a H) (G0 : jT) (H0 : Heap) (r0 : Nat) (rb : Nat) (n_rb : Nat) (pe : Int32) (pt : Int32) : Met l yX4_isString (jw yX4_isString cX4_isString 4 (some .boolean)) ({ frames := 6, cells := 0, slots := 0, locals := 185 }) (va_Pc [.ref r0] (fun U => U.heap = H0 ∧ jX B base G0 [] H0 ∧ jG dC dI ca base U ∧ G0 r0 = some (6, 0) ∧ G0 rb = some (100, n_rb) ∧ jP (dC, dI) G0 H0 [(r0, 6, 9, .ref rb), (r0, 6, 10, .int pe), (r0, 6, 11, .int pt)] ∧ 0 ≤ pe.toInt ∧ pe.toInt ≤ n_rb ∧ n_rb ≤ 3000 ∧ 0 ≤ pt.toInt ∧ pt.toInt ≤ 19000 ∧ pt.toInt ≤ pe.toInt)) (va_Qi (S := Int32) (fun r u => (r = 0 ∨ r = 1) ∧ (pt.toInt ≤ u.toInt ∧ u.toInt ≤ pe.toInt + 3 * (1 - r.toInt))) (fun u t => jRt (dC, dI) B base G0 EX4_isString H0 [(r0, 6, 11, .int u)] t.heap) (jA base)) 0 0 (jA base) := by
  refine Met.ofW (cc := cX4_isString) (maxL := 4) (ret := (some .boolean)) (by decide) rfl ?_
  intro p e s m args below meth c s₁ Bd hml hv
  obtain ⟨rfl, hH0, hX, hG, hg_r0, hg_rb, hP0, hp0, hp1, hp2, hp3, hp4, hp5⟩ := hv
  have hK := hG.1
  have hx := Bd.exec
  have hb := Bd.bytes
  have hr := Bd.returns
  have hts := atoms_spec (ws := (jw yX4_isString cX4_isString 4 (some .boolean))) Bd.pre
  have htw : ∀ w ∈ jWl, w.before _ s = true := fun w h => hts w (List.mem_cons_of_mem _ h)
  have hown : s.vm.findClass RX4 = some m.cls := findClass_of_methodNamed Bd.named
  have hlocks := Bd.notSynchronized
  obtain ⟨Q, hQ⟩ : ∃ Q, Q = MQ below (va_Qi (S := Int32) (fun r u => (r = 0 ∨ r = 1) ∧ (pt.toInt ≤ u.toInt ∧ u.toInt ≤ pe.toInt + 3 * (1 - r.toInt))) (fun u t => jRt (dC, dI) B base G0 EX4_isString H0 [(r0, 6, 11, .int u)] t.heap) (jA base)) ([.ref r0] : List Value).toArray s 0 0 (jA base) := ⟨_, rfl⟩
  rw [← hQ]
  have hl := lv_entry ([.ref r0]) (n := 4) (Nat.le_of_ble_eq_true rfl)
  rw [lg_entry_eq]
  generalize (lg_sl ([.ref r0]) ++ List.replicate (4 - (lg_sl ([.ref r0])).length) Slot.unset).toArray = ls at hl ⊢
  have hl : lv_has ls 4 [(0, .ref r0)] := hl
  generalize hR : (headSpec (jw yX4_isString cX4_isString 4 (some .boolean)) ({ frames := 6, cells := 0, slots := 0, locals := 185 })).room = R
  subst hH0
  have hh : jSt (dC, dI) B base G0 G0 EX4_isString s.heap 0 0 [(r0, 6, 9, .ref rb), (r0, 6, 10, .int pe), (r0, 6, 11, .int pt)] [] [] s.heap [] := jSt.start hX hP0 jMc.nil jIs.nil
  clear hX hP0
  have hk0 : (0 : Int32).toInt = 0 := by decide
  have hk1 : (1 : Int32).toInt = 1 := by decide
  have hk32 : (32 : Int32).toInt = 32 := by decide
  have hk34 : (34 : Int32).toInt = 34 := by decide
  have hk92 : (92 : Int32).toInt = 92 := by decide
  have hly_6_9 := htw (u_lay RX4 TX4 9) (jWc_wsX40 _ (u_in_lay (by decide)))
  have hly_6_10 := htw (u_lay RX4 TX4 10) (jWc_wsX40 _ (u_in_lay (by decide)))
  have hly_6_11 := htw (u_lay RX4 TX4 11) (jWc_wsX40 _ (u_in_lay (by decide)))
  have hlk_47 := (htw (.fieldLink RX4 47 "ProofServer$Json" "at" "I") (jWr_19 _ (List.mem_of_getElem? (i := 12) rfl)))
  have hlk_43 := (htw (.fieldLink RX4 43 "ProofServer$Json" "end" "I") (jWr_19 _ (List.mem_of_getElem? (i := 11) rfl)))
  have hlk_33 := (htw (.fieldLink RX4 33 "ProofServer$Json" "bytes" "[B") (jWr_4 _ (List.mem_of_getElem? (i := 4) rfl)))
  obtain ⟨str146, rstr146, hstr1460⟩ := hG.str (o := RX4) (k := 146) (tx := "\\u") (List.mem_of_getElem? (i := 667) (by decide +kernel))
  have hstr146 : jStr base str146 2 s s.heap := hstr1460
  refine lv_aload_n hx hb dX4_isString_0 rfl (lv_at hl 0 rfl) ?_
  refine va_calli (A0 := jA base) (H0 := s.heap) (va_runV (As := []) (rest := []) ⟨hx, hb, hml, hown, hts⟩ (uX4_peek l dC dI ca base B hB hAp hB6 hB100 G0 s.heap r0 rb n_rb pe pt) (cwV 0 hts (jgV (jWr_19 _ (List.mem_of_getElem? (i := 19) rfl)) (jWr_19 _ (List.mem_of_getElem? (i := 20) rfl)) (jWr_19 _ (List.mem_of_getElem? (i := 21) rfl)) (jWr_1 _ (List.mem_of_getElem? (i := 22) rfl)) (jWr_19 _ (List.mem_of_getElem? (i := 22) rfl))) rfl rfl rfl (by decide +kernel) ⟨by rw [← hR]; exact Nat.le_of_ble_eq_true rfl, by rw [← hR]; exact Nat.le_of_ble_eq_true rfl⟩) ⟨fun a U g mk q => by obtain ⟨q0, q1, q2, qK, q10, q11, q12, q13⟩ := q; exact ⟨q0, q1, q2, jG.calling g mk a qK, q10, q11, q12, q13⟩, hh.recv (C := RX4) (T := TX4) (N := 12) hB6 rfl (by decide) hg_r0 hK, fun U hU hW => ⟨rfl, hU, hh.2.1, hG.step hW hU hh.1, hg_r0, hg_rb, (hh.2.2.1.sub (L1 := [(r0, 6, 9, .ref rb), (r0, 6, 10, .int pe), (r0, 6, 11, .int pt)]) [0, 1, 2] rfl), by first | omega | (refine ⟨?_, ?_, ?_, ?_, ?_⟩ <;> (first | omega | rfl | assumption | decide | exact Or.inl rfl | exact Or.inr rfl | (simp only; omega)))⟩⟩ rfl rfl hl.1 rfl (lv_room (Nat.le_of_ble_eq_true rfl)) dX4_isString_1 ⟨Nat.zero_le _, Nat.zero_le _⟩) hh.1 (fun q _ h => h) (fun q h => h) (fun r_2 u_1 t_1 H_1 locs_1 ht_1 hvm_1 hr_2 hb_1 hz_1 hk_1 hS_1 => ?_)
  rw [ht_1] at hb_1
  obtain ⟨hb_11, hb_12, hb_13, hb_14, hb_15⟩ := hb_1
  have hh_1 : jSt (dC, dI) B base G0 G0 EX4_isString s.heap 0 0 [(r0, 6, 9, .ref rb), (r0, 6, 10, .int pe), (r0, 6, 11, .int pt)] [] [] H_1 locs_1 := ((hh.call hb_11 hb_12 hb_13 hb_14 hS_1 rfl (L1 := [(r0, 6, 9, .ref rb), (r0, 6, 10, .int pe), (r0, 6, 11, .int pt)]) [0, 1, 2] rfl rfl (M1 := []) [] rfl rfl (I1 := []) [] rfl rfl).more hb_15)
  clear hh ht_1 hvm_1 hz_1 hk_1 hS_1 hb_11 hb_12 hb_13 hb_14 hb_15
  obtain ⟨hr_2_0, hr_2_1, hr_2_2⟩ := hr_2
  refine lv_bipush (v := 34) hx hb dX4_isString_4 (by decide) ?_
  refine lv_icmp_eq (tgt := 11) hx hb dX4_isString_6 (by decide) (fun c_3 => ?_) (fun c_3 => ?_)
  · skip
    have c_3' : r_2.toInt = 34 := jb_eq (rfl) ((by decide)) c_3
    first | (have hr_2_2q := hr_2_2.resolve_left (by omega); clear hr_2_2) | (have hr_2_2q := hr_2_2.resolve_right (by omega); clear hr_2_2) | try clear hr_2_2
    refine lv_aload_n hx hb dX4_isString_11 rfl (lv_at hl 0 rfl) ?_
    refine lv_dup hx hb dX4_isString_12 rfl ?_
    refine j7_read hx hb hown hK (C := RX4) (T := TX4) (N := 12) rfl hly_6_11 hlk_47 (hh_1.at 2 rfl) dX4_isString_13 ?_
    refine lv_iconst (v := 1) hx hb dX4_isString_16 (by decide) ?_
    refine lv_iadd hx hb dX4_isString_17 ?_
    refine lv_topi (fun z_4 ez_4 => ?_)
    have hz_4 : z_4.toInt = pt.toInt + 1 := by rw [ez_4]; exact jb_iadd2 (rfl) ((by decide)) (by omega)
    refine j7_put hx hb hown hK hh_1 hB hAp hB6 (C := RX4) (T := TX4) (N := 12) rfl (by decide) hg_r0 (i := 11) (by decide) hly_6_11 rfl hlk_47 rfl (ty := .int) (v := .int z_4) (by decide +kernel) rfl rfl (⟨_, rfl, by omega, by omega⟩) rfl (L1 := [(r0, 6, 9, .ref rb), (r0, 6, 10, .int pe)]) [0, 1] rfl rfl rfl dX4_isString_18 (fun H_5 locs_5 hh_5 => ?_)
    clear hh_1
    refine lv_iconst (v := 0) hx hb dX4_isString_21 (by decide) ?_
    refine lv_istore_n (lv' := [(1, .int 0), (0, .ref r0)]) hx hb dX4_isString_22 rfl hl (by decide) rfl (fun ls hl => ?_)
    have L23 : ∀ (N : Nat) (v1_6 : Int32) (wt_6 : Int32) (H_6 : Heap) (locs_6 : List Loc), jSt (dC, dI) B base G0 G0 EX4_isString s.heap 0 0 [(r0, 6, 11, .int wt_6), (r0, 6, 9, .ref rb), (r0, 6, 10, .int pe)] [] [] H_6 locs_6 → (0 ≤ v1_6.toInt ∧ pt.toInt ≤ wt_6.toInt ∧ wt_6.toInt ≤ pe.toInt + 3) → (((pe.toInt - v1_6.toInt).toNat : Int) : Int) < N → ∀ ls : Array Slot, lv_has ls 4 [(0, .ref r0), (1, .int v1_6)] → W p l e R s m ([.ref r0] : List Value).toArray below meth c H_6 locs_6 0 0 Q (F0 m 23 ls []) := by
      intro N
      induction N with
      | zero => intro v1_6 wt_6 H_6 locs_6 hh_6  hi_6 hm; exact absurd hm (by omega)
      | succ N L23 =>
        intro v1_6 wt_6 H_6 locs_6 hh_6  hi_6 hm_6 ls hl
        obtain ⟨hi_6_0, hi_6_1, hi_6_2⟩ := hi_6
        refine lv_iload_n hx hb dX4_isString_23 rfl (lv_at hl 1 rfl) ?_
        refine lv_aload_n hx hb dX4_isString_24 rfl (lv_at hl 0 rfl) ?_
        refine j7_read hx hb hown hK (C := RX4) (T := TX4) (N := 12) rfl hly_6_10 hlk_43 (hh_6.at 2 rfl) dX4_isString_25 ?_
        refine lv_icmp_ge (tgt := 144) hx hb dX4_isString_28 (by decide) (fun c_7 => ?_) (fun c_7 => ?_)
        · skip
          have c_7' : v1_6.toInt ≥ pe.toInt := jb_ge (rfl) (rfl) c_7
          refine lv_iconst (v := 0) hx hb dX4_isString_144 (by decide) ?_
          rw [hQ]
          exact W.zret (v := 0) hx hb hr (jb_nz (Or.inl rfl)) (fun t ht hW => ⟨⟨0, wt_6, rfl, ⟨(Or.inl rfl), by first | omega | (refine ⟨?_, ?_⟩ <;> (first | omega | rfl | assumption | decide | exact Or.inl rfl | exact Or.inr rfl | (simp only; omega)))⟩, hh_6.rt (M1 := [(r0, 6, 11, .int wt_6)]) [0] rfl ht⟩, by rw [ht]; try exact hh_6.1.1, fun q h9 hq => by rw [ht]; try exact hh_6.1.2.1 q h9 hq⟩) hh_6.1.2.2 dX4_isString_145
        · skip
          have c_7' : v1_6.toInt < pe.toInt := jb_ge_n (rfl) (rfl) c_7
          refine lv_aload_n hx hb dX4_isString_31 rfl (lv_at hl 0 rfl) ?_
          refine j7_read hx hb hown hK (C := RX4) (T := TX4) (N := 12) rfl hly_6_11 hlk_47 (hh_6.at 0 rfl) dX4_isString_32 ?_
          refine lv_aload_n hx hb dX4_isString_35 rfl (lv_at hl 0 rfl) ?_
          refine j7_read hx hb hown hK (C := RX4) (T := TX4) (N := 12) rfl hly_6_10 hlk_43 (hh_6.at 2 rfl) dX4_isString_36 ?_
          refine lv_icmp_ge (tgt := 144) hx hb dX4_isString_39 (by decide) (fun c_8 => ?_) (fun c_8 => ?_)
          · skip
            have c_8' : wt_6.toInt ≥ pe.toInt := jb_ge (rfl) (rfl) c_8
            refine lv_iconst (v := 0) hx hb dX4_isString_144 (by decide) ?_
            rw [hQ]
            exact W.zret (v := 0) hx hb hr (jb_nz (Or.inl rfl)) (fun t ht hW => ⟨⟨0, wt_6, rfl, ⟨(Or.inl rfl), by first | omega | (refine ⟨?_, ?_⟩ <;> (first | omega | rfl | assumption | decide | exact Or.inl rfl | exact Or.inr rfl | (simp only; omega)))⟩, hh_6.rt (M1 := [(r0, 6, 11, .int wt_6)]) [0] rfl ht⟩, by rw [ht]; try exact hh_6.1.1, fun q h9 hq => by rw [ht]; try exact hh_6.1.2.1 q h9 hq⟩) hh_6.1.2.2 dX4_isString_145
          · skip
            have c_8' : wt_6.toInt < pe.toInt := jb_ge_n (rfl) (rfl) c_8
            refine lv_aload_n hx hb dX4_isString_42 rfl (lv_at hl 0 rfl) ?_
            refine j7_read hx hb hown hK (C := RX4) (T := TX4) (N := 12) rfl hly_6_9 hlk_33 (hh_6.at 1 rfl) dX4_isString_43 ?_
            refine lv_aload_n hx hb dX4_isString_46 rfl (lv_at hl 0 rfl) ?_
            refine j7_read hx hb hown hK (C := RX4) (T := TX4) (N := 12) rfl hly_6_11 hlk_47 (hh_6.at 0 rfl) dX4_isString_47 ?_
            refine lv_aload_n hx hb dX4_isString_50 rfl (lv_at hl 0 rfl) ?_
            refine j7_read hx hb hown hK (C := RX4) (T := TX4) (N := 12) rfl hly_6_10 hlk_43 (hh_6.at 2 rfl) dX4_isString_51 ?_
            refine va_calli (A0 := jA base) (H0 := s.heap) (va_runS (As := [.ref rb, .int wt_6, .int pe]) (rest := []) ⟨hx, hb, hml, hown, hts⟩ (uX0_decoded l dC dI ca base B hB hAp hB100 G0 H_6 rb wt_6 pe n_rb) (va_cwS 3 hts (jgS (jWr_20 _ (List.mem_of_getElem? (i := 12) rfl)) (jWr_20 _ (List.mem_of_getElem? (i := 13) rfl)) (jWr_1 _ (List.mem_of_getElem? (i := 14) rfl)) (jWr_20 _ (List.mem_of_getElem? (i := 14) rfl))) rfl rfl rfl (by decide +kernel) ⟨by rw [← hR]; exact Nat.le_of_ble_eq_true rfl, by rw [← hR]; exact Nat.le_of_ble_eq_true rfl⟩) ⟨fun a U g mk q => by obtain ⟨q0, q1, q2, qK, q10, q11, q12⟩ := q; exact ⟨q0, q1, q2, jG.calling g mk a qK, q10, q11, q12⟩, fun U hU hW => ⟨rfl, hU, hh_6.2.1, hG.step hW hU hh_6.1, hg_rb, jP.nil, by first | omega | (refine ⟨?_, ?_⟩ <;> (first | omega | rfl | assumption | decide | exact Or.inl rfl | exact Or.inr rfl | (simp only; omega)))⟩⟩ rfl rfl hl.1 rfl (lv_room (Nat.le_of_ble_eq_true rfl)) dX4_isString_54 ⟨Nat.zero_le _, Nat.zero_le _⟩) hh_6.1 (fun q _ h => h) (fun q h => h) (fun r_10 u_9 t_9 H_9 locs_9 ht_9 hvm_9 hr_10 hb_9 hz_9 hk_9 hS_9 => ?_)
            rw [ht_9] at hb_9
            obtain ⟨hb_91, hb_92, hb_93, hb_94, hb_95⟩ := hb_9
            have hh_9 : jSt (dC, dI) B base G0 G0 EX4_isString s.heap 0 0 [(r0, 6, 11, .int wt_6), (r0, 6, 9, .ref rb), (r0, 6, 10, .int pe)] [] [] H_9 locs_9 := ((hh_6.call hb_91 hb_92 hb_93 hb_94 hS_9 rfl (L1 := [(r0, 6, 11, .int wt_6), (r0, 6, 9, .ref rb), (r0, 6, 10, .int pe)]) [0, 1, 2] rfl rfl (M1 := []) [] rfl rfl (I1 := []) [] rfl rfl).more hb_95)
            clear hh_6 ht_9 hvm_9 hz_9 hk_9 hS_9 hb_91 hb_92 hb_93 hb_94 hb_95
            refine lv_istore_n (lv' := [(2, .int r_10), (0, .ref r0), (1, .int v1_6)]) hx hb dX4_isString_57 rfl hl (by decide) rfl (fun ls hl => ?_)
            refine lv_iload_n hx hb dX4_isString_58 rfl (lv_at hl 0 rfl) ?_
            refine lv_bipush (v := 34) hx hb dX4_isString_59 (by decide) ?_
            refine lv_icmp_ne (tgt := 76) hx hb dX4_isString_61 (by decide) (fun c_11 => ?_) (fun c_11 => ?_)
            · skip
              have c_11' : r_10.toInt ≠ 34 := jb_ne (rfl) ((by decide)) c_11
              refine lv_iload_n hx hb dX4_isString_76 rfl (lv_at hl 0 rfl) ?_
              refine lv_bipush (v := 32) hx hb dX4_isString_77 (by decide) ?_
              refine lv_icmp_ge (tgt := 84) hx hb dX4_isString_79 (by decide) (fun c_12 => ?_) (fun c_12 => ?_)
              · skip
                have c_12' : r_10.toInt ≥ 32 := jb_ge (rfl) ((by decide)) c_12
                refine lv_iload_n hx hb dX4_isString_84 rfl (lv_at hl 0 rfl) ?_
                refine lv_bipush (v := 92) hx hb dX4_isString_85 (by decide) ?_
                refine lv_icmp_ne (tgt := 120) hx hb dX4_isString_87 (by decide) (fun c_13 => ?_) (fun c_13 => ?_)
                · skip
                  have c_13' : r_10.toInt ≠ 92 := jb_ne (rfl) ((by decide)) c_13
                  refine lv_aload_n hx hb dX4_isString_120 rfl (lv_at hl 1 rfl) ?_
                  refine lv_dup hx hb dX4_isString_121 rfl ?_
                  refine j7_read hx hb hown hK (C := RX4) (T := TX4) (N := 12) rfl hly_6_11 hlk_47 (hh_9.at 0 rfl) dX4_isString_122 ?_
                  refine lv_iload_n hx hb dX4_isString_125 rfl (lv_at hl 0 rfl) ?_
                  refine vp_callSi (W.runS (As := [.int r_10]) (rest := [.int wt_6, .ref r0]) ⟨hx, hb, hml, hown, hts⟩ (wX0_decodedSize l dC dI ca base H_9 r_10) (va_cwS 1 hts (jgS (jWr_22 _ (List.mem_of_getElem? (i := 0) rfl)) (jWr_22 _ (List.mem_of_getElem? (i := 1) rfl)) (jWr_1 _ (List.mem_of_getElem? (i := 14) rfl)) (jWr_22 _ (List.mem_of_getElem? (i := 2) rfl))) rfl rfl rfl (by decide +kernel) ⟨by rw [← hR]; exact Nat.le_of_ble_eq_true rfl, by rw [← hR]; exact Nat.le_of_ble_eq_true rfl⟩) ⟨fun a U g mk q => by obtain ⟨q0, q1, qK, q9⟩ := q; exact ⟨q0, q1, jG.calling g mk a qK, q9⟩, fun U hU hW => ⟨rfl, hU, hG.step hW hU hh_9.1, by first | trivial | omega | (constructor <;> omega)⟩⟩ rfl rfl hl.1 rfl (lv_room (Nat.le_of_ble_eq_true rfl)) dX4_isString_126 ⟨Nat.zero_le _, Nat.zero_le _⟩) (fun r_14 hr_14 => ?_)
                  refine lv_iadd hx hb dX4_isString_129 ?_
                  refine lv_topi (fun z_15 ez_15 => ?_)
                  have hz_15 : z_15.toInt = wt_6.toInt + r_14.toInt := by rw [ez_15]; exact jb_iadd2 (rfl) (rfl) (by omega)
                  refine j7_put hx hb hown hK hh_9 hB hAp hB6 (C := RX4) (T := TX4) (N := 12) rfl (by decide) hg_r0 (i := 11) (by decide) hly_6_11 rfl hlk_47 rfl (ty := .int) (v := .int z_15) (by decide +kernel) rfl rfl (⟨_, rfl, by omega, by omega⟩) rfl (L1 := [(r0, 6, 9, .ref rb), (r0, 6, 10, .int pe)]) [1, 2] rfl rfl rfl dX4_isString_130 (fun H_16 locs_16 hh_16 => ?_)
                  clear hh_9
                  refine lv_aload_n hx hb dX4_isString_133 rfl (lv_at hl 1 rfl) ?_
                  refine lv_iload_n hx hb dX4_isString_134 rfl (lv_at hl 0 rfl) ?_
                  refine va_callv (A0 := jA base) (H0 := s.heap) (va_runV (As := [.int r_10]) (rest := []) ⟨hx, hb, hml, hown, hts⟩ (uX4_addChar l dC dI ca base B hB hAp hB6 hB146 G0 H_16 r0 r_10) (cwV 1 hts (jgV (jWr_22 _ (List.mem_of_getElem? (i := 3) rfl)) (jWr_22 _ (List.mem_of_getElem? (i := 4) rfl)) (jWr_22 _ (List.mem_of_getElem? (i := 5) rfl)) (jWr_1 _ (List.mem_of_getElem? (i := 22) rfl)) (jWr_22 _ (List.mem_of_getElem? (i := 6) rfl))) rfl rfl rfl (by decide +kernel) ⟨by rw [← hR]; exact Nat.le_of_ble_eq_true rfl, by rw [← hR]; exact Nat.le_of_ble_eq_true rfl⟩) ⟨fun a U g mk q => by obtain ⟨q0, q1, q2, qK, q10, q11, q12⟩ := q; exact ⟨q0, q1, q2, jG.calling g mk a qK, q10, q11, q12⟩, hh_16.recv (C := RX4) (T := TX4) (N := 12) hB6 rfl (by decide) hg_r0 hK, fun U hU hW => ⟨rfl, hU, hh_16.2.1, hG.step hW hU hh_16.1, hg_r0, jP.nil, trivial⟩⟩ rfl rfl hl.1 rfl (lv_room (Nat.le_of_ble_eq_true rfl)) dX4_isString_135 ⟨Nat.zero_le _, Nat.zero_le _⟩) hh_16.1 (fun q _ h => h) (fun q h => h) (fun u_17 t_17 H_17 locs_17 ht_17 hvm_17 hr_18 hb_17 hz_17 hk_17 hS_17 => ?_)
                  rw [ht_17] at hb_17
                  obtain ⟨hb_171, hb_172, hb_173, hb_174, hb_175⟩ := hb_17
                  have hh_17 : jSt (dC, dI) B base G0 G0 EX4_isString s.heap 0 0 [(r0, 6, 11, .int z_15), (r0, 6, 9, .ref rb), (r0, 6, 10, .int pe)] [] [] H_17 locs_17 := ((hh_16.call hb_171 hb_172 hb_173 hb_174 hS_17 rfl (L1 := [(r0, 6, 11, .int z_15), (r0, 6, 9, .ref rb), (r0, 6, 10, .int pe)]) [0, 1, 2] rfl rfl (M1 := []) [] rfl rfl (I1 := []) [] rfl rfl).more hb_175)
                  clear hh_16 ht_17 hvm_17 hz_17 hk_17 hS_17 hb_171 hb_172 hb_173 hb_174 hb_175
                  obtain ⟨z_19, ez_19⟩ : ∃ y : Int32, y = v1_6 + 1 := ⟨_, rfl⟩
                  refine lv_iinc (v := z_19) (lv' := [(1, .int z_19), (2, .int r_10), (0, .ref r0)]) hx hb dX4_isString_138 hl (k := 2) rfl (by rw [ez_19]; rfl) (by decide) rfl (fun ls hl => ?_)
                  have hz_19 : z_19.toInt = v1_6.toInt + 1 := by rw [ez_19]; exact jb_iadd2 (rfl) (by decide) (by omega)
                  refine lv_goto (tgt := 23) hx hb dX4_isString_141 (by decide) ?_
                  exact L23 z_19 z_15 _ _ hh_17 (by first | omega | (refine ⟨?_, ?_, ?_⟩ <;> (first | omega | rfl | assumption | decide | exact Or.inl rfl | exact Or.inr rfl | (simp only; omega)))) (by omega) _ (lv_sub hl [2, 0] rfl)
                · skip
                  have c_13' : r_10.toInt = 92 := jb_ne_n (rfl) ((by decide)) c_13
                  refine lv_aload_n hx hb dX4_isString_90 rfl (lv_at hl 1 rfl) ?_
                  refine va_ldcS hx hb hown rstr146 dX4_isString_91 ?_
                  refine va_calli (A0 := jA base) (H0 := s.heap) (va_runV (As := [.ref str146]) (rest := []) ⟨hx, hb, hml, hown, hts⟩ (uX4_isWord l dC dI ca base B hB hAp hB6 hB100 G0 H_9 r0 str146 2 rb n_rb pe wt_6) (cwV 1 hts (jgV (jWr_20 _ (List.mem_of_getElem? (i := 19) rfl)) (jWr_20 _ (List.mem_of_getElem? (i := 20) rfl)) (jWr_20 _ (List.mem_of_getElem? (i := 21) rfl)) (jWr_1 _ (List.mem_of_getElem? (i := 22) rfl)) (jWr_20 _ (List.mem_of_getElem? (i := 22) rfl))) rfl rfl rfl (by decide +kernel) ⟨by rw [← hR]; exact Nat.le_of_ble_eq_true rfl, by rw [← hR]; exact Nat.le_of_ble_eq_true rfl⟩) ⟨fun a U g mk q => by obtain ⟨q0, q1, q2, qK, q10, q11, q12, q13, q14⟩ := q; exact ⟨q0, q1, q2, jG.calling g mk a qK, (q10.moved (Vm.Alike.refl U.vm)), q11, q12, q13, q14⟩, hh_9.recv (C := RX4) (T := TX4) (N := 12) hB6 rfl (by decide) hg_r0 hK, fun U hU hW => ⟨rfl, hU, hh_9.2.1, hG.step hW hU hh_9.1, (hstr146.moved hW.alike).kept hh_9.1.2.1, hg_r0, hg_rb, (hh_9.2.2.1.sub (L1 := [(r0, 6, 9, .ref rb), (r0, 6, 10, .int pe), (r0, 6, 11, .int wt_6)]) [1, 2, 0] rfl), by first | omega | (refine ⟨?_, ?_, ?_, ?_, ?_, ?_, ?_, ?_⟩ <;> (first | omega | rfl | assumption | decide | exact Or.inl rfl | exact Or.inr rfl | (simp only; omega)))⟩⟩ rfl rfl hl.1 rfl (lv_room (Nat.le_of_ble_eq_true rfl)) dX4_isString_93 ⟨Nat.zero_le _, Nat.zero_le _⟩) hh_9.1 (fun q _ h => h) (fun q h => h) (fun r_21 u_20 t_20 H_20 locs_20 ht_20 hvm_20 hr_21 hb_20 hz_20 hk_20 hS_20 => ?_)
                  obtain ⟨qt_20, rfl⟩ : ∃ z, z = u_20 := ⟨_, rfl⟩
                  rw [ht_20] at hb_20
                  obtain ⟨hb_201, hb_202, hb_203, hb_204, hb_205⟩ := hb_20
                  have hh_20 : jSt (dC, dI) B base G0 G0 EX4_isString s.heap 0 0 [(r0, 6, 11, .int qt_20), (r0, 6, 9, .ref rb), (r0, 6, 10, .int pe)] [] [] H_20 locs_20 := ((hh_9.call hb_201 hb_202 hb_203 hb_204 hS_20 rfl (L1 := [(r0, 6, 9, .ref rb), (r0, 6, 10, .int pe)]) [1, 2] rfl rfl (M1 := []) [] rfl rfl (I1 := []) [] rfl rfl).more hb_205)
                  clear hh_9 ht_20 hvm_20 hz_20 hk_20 hS_20 hb_201 hb_202 hb_203 hb_204 hb_205
                  obtain ⟨hr_21b, hr_21p⟩ := hr_21
                  obtain ⟨hr_21p_0, hr_21p_1, hr_21p_2⟩ := hr_21p
                  have hr_21' := jb_01 hr_21b
                  refine lv_if_eq (tgt := 106) hx hb dX4_isString_96 (by decide) (fun c_22 => ?_) (fun c_22 => ?_)
                  · skip
                    have c_22' : r_21.toInt = 0 := jb_eq (rfl) ((by decide)) c_22
                    refine lv_aload_n hx hb dX4_isString_106 rfl (lv_at hl 1 rfl) ?_
                    refine va_calli (A0 := jA base) (H0 := s.heap) (va_runV (As := []) (rest := []) ⟨hx, hb, hml, hown, hts⟩ (uX4_isEscape l dC dI ca base B hB hAp hB6 hB100 hB146 G0 H_20 r0 rb n_rb pe qt_20) (cwV 0 hts (jgV (jWr_21 _ (List.mem_of_getElem? (i := 20) rfl)) (jWr_21 _ (List.mem_of_getElem? (i := 21) rfl)) (jWr_21 _ (List.mem_of_getElem? (i := 22) rfl)) (jWr_1 _ (List.mem_of_getElem? (i := 22) rfl)) (jWr_21 _ (List.mem_of_getElem? (i := 23) rfl))) rfl rfl rfl (by decide +kernel) ⟨by rw [← hR]; exact Nat.le_of_ble_eq_true rfl, by rw [← hR]; exact Nat.le_of_ble_eq_true rfl⟩) ⟨fun a U g mk q => by obtain ⟨q0, q1, q2, qK, q10, q11, q12, q13⟩ := q; exact ⟨q0, q1, q2, jG.calling g mk a qK, q10, q11, q12, q13⟩, hh_20.recv (C := RX4) (T := TX4) (N := 12) hB6 rfl (by decide) hg_r0 hK, fun U hU hW => ⟨rfl, hU, hh_20.2.1, hG.step hW hU hh_20.1, hg_r0, hg_rb, (hh_20.2.2.1.sub (L1 := [(r0, 6, 9, .ref rb), (r0, 6, 10, .int pe), (r0, 6, 11, .int qt_20)]) [1, 2, 0] rfl), by first | omega | (refine ⟨?_, ?_, ?_, ?_, ?_, ?_⟩ <;> (first | omega | rfl | assumption | decide | exact Or.inl rfl | exact Or.inr rfl | (simp only; omega)))⟩⟩ rfl rfl hl.1 rfl (lv_room (Nat.le_of_ble_eq_true rfl)) dX4_isString_107 ⟨Nat.zero_le _, Nat.zero_le _⟩) hh_20.1 (fun q _ h => h) (fun q h => h) (fun r_24 u_23 t_23 H_23 locs_23 ht_23 hvm_23 hr_24 hb_23 hz_23 hk_23 hS_23 => ?_)
                    obtain ⟨qt_23, rfl⟩ : ∃ z, z = u_23 := ⟨_, rfl⟩
                    rw [ht_23] at hb_23
                    obtain ⟨hb_231, hb_232, hb_233, hb_234, hb_235⟩ := hb_23
                    have hh_23 : jSt (dC, dI) B base G0 G0 EX4_isString s.heap 0 0 [(r0, 6, 11, .int qt_23), (r0, 6, 9, .ref rb), (r0, 6, 10, .int pe)] [] [] H_23 locs_23 := ((hh_20.call hb_231 hb_232 hb_233 hb_234 hS_23 rfl (L1 := [(r0, 6, 9, .ref rb), (r0, 6, 10, .int pe)]) [1, 2] rfl rfl (M1 := []) [] rfl rfl (I1 := []) [] rfl rfl).more hb_235)
                    clear hh_20 ht_23 hvm_23 hz_23 hk_23 hS_23 hb_231 hb_232 hb_233 hb_234 hb_235
                    obtain ⟨hr_24b, hr_24p⟩ := hr_24
                    obtain ⟨hr_24p_0, hr_24p_1⟩ := hr_24p
                    have hr_24' := jb_01 hr_24b
                    refine lv_istore_n (lv' := [(3, .int r_24), (2, .int r_10), (0, .ref r0), (1, .int v1_6)]) hx hb dX4_isString_110 rfl hl (by decide) rfl (fun ls hl => ?_)
                    refine lv_iload_n hx hb dX4_isString_111 rfl (lv_at hl 0 rfl) ?_
                    refine lv_if_ne (tgt := 117) hx hb dX4_isString_112 (by decide) (fun c_25 => ?_) (fun c_25 => ?_)
                    · skip
                      have c_25' : r_24.toInt ≠ 0 := jb_ne (rfl) ((by decide)) c_25
                      refine lv_goto (tgt := 138) hx hb dX4_isString_117 (by decide) ?_
                      obtain ⟨z_26, ez_26⟩ : ∃ y : Int32, y = v1_6 + 1 := ⟨_, rfl⟩
                      refine lv_iinc (v := z_26) (lv' := [(1, .int z_26), (3, .int r_24), (2, .int r_10), (0, .ref r0)]) hx hb dX4_isString_138 hl (k := 3) rfl (by rw [ez_26]; rfl) (by decide) rfl (fun ls hl => ?_)
                      have hz_26 : z_26.toInt = v1_6.toInt + 1 := by rw [ez_26]; exact jb_iadd2 (rfl) (by decide) (by omega)
                      refine lv_goto (tgt := 23) hx hb dX4_isString_141 (by decide) ?_
                      exact L23 z_26 qt_23 _ _ hh_23 (by first | omega | (refine ⟨?_, ?_, ?_⟩ <;> (first | omega | rfl | assumption | decide | exact Or.inl rfl | exact Or.inr rfl | (simp only; omega)))) (by omega) _ (lv_sub hl [3, 0] rfl)
                    · skip
                      have c_25' : r_24.toInt = 0 := jb_ne_n (rfl) ((by decide)) c_25
                      refine lv_iconst (v := 0) hx hb dX4_isString_115 (by decide) ?_
                      rw [hQ]
                      exact W.zret (v := 0) hx hb hr (jb_nz (Or.inl rfl)) (fun t ht hW => ⟨⟨0, qt_23, rfl, ⟨(Or.inl rfl), by first | omega | (refine ⟨?_, ?_⟩ <;> (first | omega | rfl | assumption | decide | exact Or.inl rfl | exact Or.inr rfl | (simp only; omega)))⟩, hh_23.rt (M1 := [(r0, 6, 11, .int qt_23)]) [0] rfl ht⟩, by rw [ht]; try exact hh_23.1.1, fun q h9 hq => by rw [ht]; try exact hh_23.1.2.1 q h9 hq⟩) hh_23.1.2.2 dX4_isString_116
                  · skip
                    have c_22' : r_21.toInt ≠ 0 := jb_eq_n (rfl) ((by decide)) c_22
                    refine lv_aload_n hx hb dX4_isString_99 rfl (lv_at hl 1 rfl) ?_
                    refine va_calli (A0 := jA base) (H0 := s.heap) (va_runV (As := []) (rest := []) ⟨hx, hb, hml, hown, hts⟩ (uX4_isUnitEscape l dC dI ca base B hB hAp hB6 hB100 hB146 G0 H_20 r0 rb n_rb pe qt_20) (cwV 0 hts (jgV (jWr_21 _ (List.mem_of_getElem? (i := 1) rfl)) (jWr_21 _ (List.mem_of_getElem? (i := 2) rfl)) (jWr_21 _ (List.mem_of_getElem? (i := 3) rfl)) (jWr_1 _ (List.mem_of_getElem? (i := 22) rfl)) (jWr_21 _ (List.mem_of_getElem? (i := 4) rfl))) rfl rfl rfl (by decide +kernel) ⟨by rw [← hR]; exact Nat.le_of_ble_eq_true rfl, by rw [← hR]; exact Nat.le_of_ble_eq_true rfl⟩) ⟨fun a U g mk q => by obtain ⟨q0, q1, q2, qK, q10, q11, q12, q13⟩ := q; exact ⟨q0, q1, q2, jG.calling g mk a qK, q10, q11, q12, q13⟩, hh_20.recv (C := RX4) (T := TX4) (N := 12) hB6 rfl (by decide) hg_r0 hK, fun U hU hW => ⟨rfl, hU, hh_20.2.1, hG.step hW hU hh_20.1, hg_r0, hg_rb, (hh_20.2.2.1.sub (L1 := [(r0, 6, 9, .ref rb), (r0, 6, 10, .int pe), (r0, 6, 11, .int qt_20)]) [1, 2, 0] rfl), by first | omega | (refine ⟨?_, ?_, ?_, ?_, ?_, ?_⟩ <;> (first | omega | rfl | assumption | decide | exact Or.inl rfl | exact Or.inr rfl | (simp only; omega)))⟩⟩ rfl rfl hl.1 rfl (lv_room (Nat.le_of_ble_eq_true rfl)) dX4_isString_100 ⟨Nat.zero_le _, Nat.zero_le _⟩) hh_20.1 (fun q _ h => h) (fun q h => h) (fun r_28 u_27 t_27 H_27 locs_27 ht_27 hvm_27 hr_28 hb_27 hz_27 hk_27 hS_27 => ?_)
                    obtain ⟨qt_27, rfl⟩ : ∃ z, z = u_27 := ⟨_, rfl⟩
                    rw [ht_27] at hb_27
                    obtain ⟨hb_271, hb_272, hb_273, hb_274, hb_275⟩ := hb_27
                    have hh_27 : jSt (dC, dI) B base G0 G0 EX4_isString s.heap 0 0 [(r0, 6, 11, .int qt_27), (r0, 6, 9, .ref rb), (r0, 6, 10, .int pe)] [] [] H_27 locs_27 := ((hh_20.call hb_271 hb_272 hb_273 hb_274 hS_27 rfl (L1 := [(r0, 6, 9, .ref rb), (r0, 6, 10, .int pe)]) [1, 2] rfl rfl (M1 := []) [] rfl rfl (I1 := []) [] rfl rfl).more hb_275)
                    clear hh_20 ht_27 hvm_27 hz_27 hk_27 hS_27 hb_271 hb_272 hb_273 hb_274 hb_275
                    obtain ⟨hr_28b, hr_28p⟩ := hr_28
                    obtain ⟨hr_28p_0, hr_28p_1⟩ := hr_28p
                    have hr_28' := jb_01 hr_28b
                    refine lv_goto (tgt := 110) hx hb dX4_isString_103 (by decide) ?_
                    refine lv_istore_n (lv' := [(3, .int r_28), (2, .int r_10), (0, .ref r0), (1, .int v1_6)]) hx hb dX4_isString_110 rfl hl (by decide) rfl (fun ls hl => ?_)
                    refine lv_iload_n hx hb dX4_isString_111 rfl (lv_at hl 0 rfl) ?_
                    refine lv_if_ne (tgt := 117) hx hb dX4_isString_112 (by decide) (fun c_29 => ?_) (fun c_29 => ?_)
                    · skip
                      have c_29' : r_28.toInt ≠ 0 := jb_ne (rfl) ((by decide)) c_29
                      refine lv_goto (tgt := 138) hx hb dX4_isString_117 (by decide) ?_
                      obtain ⟨z_30, ez_30⟩ : ∃ y : Int32, y = v1_6 + 1 := ⟨_, rfl⟩
                      refine lv_iinc (v := z_30) (lv' := [(1, .int z_30), (3, .int r_28), (2, .int r_10), (0, .ref r0)]) hx hb dX4_isString_138 hl (k := 3) rfl (by rw [ez_30]; rfl) (by decide) rfl (fun ls hl => ?_)
                      have hz_30 : z_30.toInt = v1_6.toInt + 1 := by rw [ez_30]; exact jb_iadd2 (rfl) (by decide) (by omega)
                      refine lv_goto (tgt := 23) hx hb dX4_isString_141 (by decide) ?_
                      exact L23 z_30 qt_27 _ _ hh_27 (by first | omega | (refine ⟨?_, ?_, ?_⟩ <;> (first | omega | rfl | assumption | decide | exact Or.inl rfl | exact Or.inr rfl | (simp only; omega)))) (by omega) _ (lv_sub hl [3, 0] rfl)
                    · skip
                      have c_29' : r_28.toInt = 0 := jb_ne_n (rfl) ((by decide)) c_29
                      refine lv_iconst (v := 0) hx hb dX4_isString_115 (by decide) ?_
                      rw [hQ]
                      exact W.zret (v := 0) hx hb hr (jb_nz (Or.inl rfl)) (fun t ht hW => ⟨⟨0, qt_27, rfl, ⟨(Or.inl rfl), by first | omega | (refine ⟨?_, ?_⟩ <;> (first | omega | rfl | assumption | decide | exact Or.inl rfl | exact Or.inr rfl | (simp only; omega)))⟩, hh_27.rt (M1 := [(r0, 6, 11, .int qt_27)]) [0] rfl ht⟩, by rw [ht]; try exact hh_27.1.1, fun q h9 hq => by rw [ht]; try exact hh_27.1.2.1 q h9 hq⟩) hh_27.1.2.2 dX4_isString_116
              · skip
                have c_12' : r_10.toInt < 32 := jb_ge_n (rfl) ((by decide)) c_12
                refine lv_iconst (v := 0) hx hb dX4_isString_82 (by decide) ?_
                rw [hQ]
                exact W.zret (v := 0) hx hb hr (jb_nz (Or.inl rfl)) (fun t ht hW => ⟨⟨0, wt_6, rfl, ⟨(Or.inl rfl), by first | omega | (refine ⟨?_, ?_⟩ <;> (first | omega | rfl | assumption | decide | exact Or.inl rfl | exact Or.inr rfl | (simp only; omega)))⟩, hh_9.rt (M1 := [(r0, 6, 11, .int wt_6)]) [0] rfl ht⟩, by rw [ht]; try exact hh_9.1.1, fun q h9 hq => by rw [ht]; try exact hh_9.1.2.1 q h9 hq⟩) hh_9.1.2.2 dX4_isString_83
            · skip
              have c_11' : r_10.toInt = 34 := jb_ne_n (rfl) ((by decide)) c_11
              refine lv_aload_n hx hb dX4_isString_64 rfl (lv_at hl 1 rfl) ?_
              refine lv_dup hx hb dX4_isString_65 rfl ?_
              refine j7_read hx hb hown hK (C := RX4) (T := TX4) (N := 12) rfl hly_6_11 hlk_47 (hh_9.at 0 rfl) dX4_isString_66 ?_
              refine lv_iconst (v := 1) hx hb dX4_isString_69 (by decide) ?_
              refine lv_iadd hx hb dX4_isString_70 ?_
              refine lv_topi (fun z_31 ez_31 => ?_)
              have hz_31 : z_31.toInt = wt_6.toInt + 1 := by rw [ez_31]; exact jb_iadd2 (rfl) ((by decide)) (by omega)
              refine j7_put hx hb hown hK hh_9 hB hAp hB6 (C := RX4) (T := TX4) (N := 12) rfl (by decide) hg_r0 (i := 11) (by decide) hly_6_11 rfl hlk_47 rfl (ty := .int) (v := .int z_31) (by decide +kernel) rfl rfl (⟨_, rfl, by omega, by omega⟩) rfl (L1 := [(r0, 6, 9, .ref rb), (r0, 6, 10, .int pe)]) [1, 2] rfl rfl rfl dX4_isString_71 (fun H_32 locs_32 hh_32 => ?_)
              clear hh_9
              refine lv_iconst (v := 1) hx hb dX4_isString_74 (by decide) ?_
              rw [hQ]
              exact W.zret (v := 1) hx hb hr (jb_nz (Or.inr rfl)) (fun t ht hW => ⟨⟨1, z_31, rfl, ⟨(Or.inr rfl), by first | omega | (refine ⟨?_, ?_⟩ <;> (first | omega | rfl | assumption | decide | exact Or.inl rfl | exact Or.inr rfl | (simp only; omega)))⟩, hh_32.rt (M1 := [(r0, 6, 11, .int z_31)]) [0] rfl ht⟩, by rw [ht]; try exact hh_32.1.1, fun q h9 hq => by rw [ht]; try exact hh_32.1.2.1 q h9 hq⟩) hh_32.1.2.2 dX4_isString_75
    exact L23 (((pe.toInt - (0 : Int32).toInt).toNat : Int) : Int).toNat.succ 0 z_4 _ _ hh_5 (by first | omega | (refine ⟨?_, ?_, ?_⟩ <;> (first | omega | rfl | assumption | decide | exact Or.inl rfl | exact Or.inr rfl | (simp only; omega)))) (by omega) _ (lv_sub hl [1, 0] rfl)
  · skip
    have c_3' : r_2.toInt ≠ 34 := jb_eq_n (rfl) ((by decide)) c_3
    try clear hr_2_2
    refine lv_iconst (v := 0) hx hb dX4_isString_9 (by decide) ?_
    rw [hQ]
    exact W.zret (v := 0) hx hb hr (jb_nz (Or.inl rfl)) (fun t ht hW => ⟨⟨0, pt, rfl, ⟨(Or.inl rfl), by first | omega | (refine ⟨?_, ?_⟩ <;> (first | omega | rfl | assumption | decide | exact Or.inl rfl | exact Or.inr rfl | (simp only; omega)))⟩, hh_1.rt (M1 := [(r0, 6, 11, .int pt)]) [2] rfl ht⟩, by rw [ht]; try exact hh_1.1.1, fun q h9 hq => by rw [ht]; try exact hh_1.1.2.1 q h9 hq⟩) hh_1.1.2.2 dX4_isString_10
set_option maxHeartbeats 4000000 in
set_option maxRecDepth 20000 in
theorem uX4_number (l : Launch) (dC : Nat → ClassId) (dI : Nat → Nat → Nat) (ca : Nat → ClassId) (base : Nat) (B : jF) (hB : jBok B) (hAp : jAp (dC, dI)) (hB6 : ∀ n G a H, B 6 n G a H ↔ jOb (dC, dI) 6 12 (F6 n G) a H) (hB100 : ∀ n G a H, B 100 n G a H ↔ jAr (dC, dI) (ca 0) (fun j z => True) n a H) (hB140 : ∀ n G a H, B 140 n G a H ↔ jAr (dC, dI) (ca 1) (fun j z => True) n a H) (hB141 : ∀ n G a H, B 141 n G a H ↔ jAr (dC, dI) (ca 1) (fun j z => True) n a H) (hB142 : ∀ n G a H, B 142 n G a H ↔ jAr (dC, dI) (ca 1) (fun j z => True) n a H) (hB143 : ∀ n G a H, B 143 n G a H ↔ jAr (dC, dI) (ca 1) (fun j z => True) n a H) (hB144 : ∀ n G a H, B 144 n G a H ↔ jAr (dC, dI) (ca 1) (fun j z => 0 ≤ z.toInt ∧ z.toInt ≤ 3000) n a H) (hB145 : ∀ n G a H, B 145 n G a H ↔ jAr (dC, dI) (ca 1) (fun j z => True) n a H) (G0 : jT) (H0 : Heap) (r0 : Nat) (rb : Nat) (n_rb : Nat) (pe : Int32) (pt : Int32) : Met l yX4_number (jw yX4_number cX4_number 8 (some .int)) ({ frames := 2, cells := 0, slots := 0, locals := 41 }) (va_Pc [.ref r0] (fun U => U.heap = H0 ∧ jX B base G0 [] H0 ∧ jG dC dI ca base U ∧ G0 r0 = some (6, 0) ∧ G0 rb = some (100, n_rb) ∧ jP (dC, dI) G0 H0 [(r0, 6, 9, .ref rb), (r0, 6, 10, .int pe), (r0, 6, 11, .int pt)] ∧ 0 ≤ pe.toInt ∧ pe.toInt ≤ n_rb ∧ n_rb ≤ 3000 ∧ 0 ≤ pt.toInt ∧ pt.toInt ≤ 19000 ∧ pt.toInt ≤ pe.toInt)) (va_Qi (S := Int32) (fun r u => (-1 ≤ r.toInt ∧ r.toInt ≤ 1501 ∧ pt.toInt ≤ u.toInt ∧ u.toInt ≤ pe.toInt)) (fun u t => jRt (dC, dI) B base G0 EX4_number H0 [(r0, 6, 11, .int u)] t.heap) (jA base)) 0 0 (jA base) := by
  refine Met.ofW (cc := cX4_number) (maxL := 8) (ret := (some .int)) (by decide) rfl ?_
  intro p e s m args below meth c s₁ Bd hml hv
  obtain ⟨rfl, hH0, hX, hG, hg_r0, hg_rb, hP0, hp0, hp1, hp2, hp3, hp4, hp5⟩ := hv
  have hK := hG.1
  have hx := Bd.exec
  have hb := Bd.bytes
  have hr := Bd.returns
  have hts := atoms_spec (ws := (jw yX4_number cX4_number 8 (some .int))) Bd.pre
  have htw : ∀ w ∈ jWl, w.before _ s = true := fun w h => hts w (List.mem_cons_of_mem _ h)
  have hown : s.vm.findClass RX4 = some m.cls := findClass_of_methodNamed Bd.named
  have hlocks := Bd.notSynchronized
  obtain ⟨Q, hQ⟩ : ∃ Q, Q = MQ below (va_Qi (S := Int32) (fun r u => (-1 ≤ r.toInt ∧ r.toInt ≤ 1501 ∧ pt.toInt ≤ u.toInt ∧ u.toInt ≤ pe.toInt)) (fun u t => jRt (dC, dI) B base G0 EX4_number H0 [(r0, 6, 11, .int u)] t.heap) (jA base)) ([.ref r0] : List Value).toArray s 0 0 (jA base) := ⟨_, rfl⟩
  rw [← hQ]
  have hl := lv_entry ([.ref r0]) (n := 8) (Nat.le_of_ble_eq_true rfl)
  rw [lg_entry_eq]
  generalize (lg_sl ([.ref r0]) ++ List.replicate (8 - (lg_sl ([.ref r0])).length) Slot.unset).toArray = ls at hl ⊢
  have hl : lv_has ls 8 [(0, .ref r0)] := hl
  generalize hR : (headSpec (jw yX4_number cX4_number 8 (some .int)) ({ frames := 2, cells := 0, slots := 0, locals := 41 })).room = R
  subst hH0
  have hh : jSt (dC, dI) B base G0 G0 EX4_number s.heap 0 0 [(r0, 6, 9, .ref rb), (r0, 6, 10, .int pe), (r0, 6, 11, .int pt)] [] [] s.heap [] := jSt.start hX hP0 jMc.nil jIs.nil
  clear hX hP0
  have hkm1 : ((-1) : Int32).toInt = (-1) := by decide
  have hk0 : (0 : Int32).toInt = 0 := by decide
  have hk1 : (1 : Int32).toInt = 1 := by decide
  have hk4 : (4 : Int32).toInt = 4 := by decide
  have hk5 : (5 : Int32).toInt = 5 := by decide
  have hk43 : (43 : Int32).toInt = 43 := by decide
  have hk45 : (45 : Int32).toInt = 45 := by decide
  have hk46 : (46 : Int32).toInt = 46 := by decide
  have hk48 : (48 : Int32).toInt = 48 := by decide
  have hk69 : (69 : Int32).toInt = 69 := by decide
  have hk101 : (101 : Int32).toInt = 101 := by decide
  have hly_6_9 := htw (u_lay RX4 TX4 9) (jWc_wsX40 _ (u_in_lay (by decide)))
  have hly_6_11 := htw (u_lay RX4 TX4 11) (jWc_wsX40 _ (u_in_lay (by decide)))
  have hlk_47 := (htw (.fieldLink RX4 47 "ProofServer$Json" "at" "I") (jWr_19 _ (List.mem_of_getElem? (i := 12) rfl)))
  have hlk_33 := (htw (.fieldLink RX4 33 "ProofServer$Json" "bytes" "[B") (jWr_4 _ (List.mem_of_getElem? (i := 4) rfl)))
  refine lv_aload_n hx hb dX4_number_0 rfl (lv_at hl 0 rfl) ?_
  refine va_calli (A0 := jA base) (H0 := s.heap) (va_runV (As := []) (rest := []) ⟨hx, hb, hml, hown, hts⟩ (uX4_peek l dC dI ca base B hB hAp hB6 hB100 G0 s.heap r0 rb n_rb pe pt) (cwV 0 hts (jgV (jWr_19 _ (List.mem_of_getElem? (i := 19) rfl)) (jWr_19 _ (List.mem_of_getElem? (i := 20) rfl)) (jWr_19 _ (List.mem_of_getElem? (i := 21) rfl)) (jWr_1 _ (List.mem_of_getElem? (i := 22) rfl)) (jWr_19 _ (List.mem_of_getElem? (i := 22) rfl))) rfl rfl rfl (by decide +kernel) ⟨by rw [← hR]; exact Nat.le_of_ble_eq_true rfl, by rw [← hR]; exact Nat.le_of_ble_eq_true rfl⟩) ⟨fun a U g mk q => by obtain ⟨q0, q1, q2, qK, q10, q11, q12, q13⟩ := q; exact ⟨q0, q1, q2, jG.calling g mk a qK, q10, q11, q12, q13⟩, hh.recv (C := RX4) (T := TX4) (N := 12) hB6 rfl (by decide) hg_r0 hK, fun U hU hW => ⟨rfl, hU, hh.2.1, hG.step hW hU hh.1, hg_r0, hg_rb, (hh.2.2.1.sub (L1 := [(r0, 6, 9, .ref rb), (r0, 6, 10, .int pe), (r0, 6, 11, .int pt)]) [0, 1, 2] rfl), by first | omega | (refine ⟨?_, ?_, ?_, ?_, ?_⟩ <;> (first | omega | rfl | assumption | decide | exact Or.inl rfl | exact Or.inr rfl | (simp only; omega)))⟩⟩ rfl rfl hl.1 rfl (lv_room (Nat.le_of_ble_eq_true rfl)) dX4_number_1 ⟨Nat.zero_le _, Nat.zero_le _⟩) hh.1 (fun q _ h => h) (fun q h => h) (fun r_2 u_1 t_1 H_1 locs_1 ht_1 hvm_1 hr_2 hb_1 hz_1 hk_1 hS_1 => ?_)
  rw [ht_1] at hb_1
  obtain ⟨hb_11, hb_12, hb_13, hb_14, hb_15⟩ := hb_1
  have hh_1 : jSt (dC, dI) B base G0 G0 EX4_number s.heap 0 0 [(r0, 6, 9, .ref rb), (r0, 6, 10, .int pe), (r0, 6, 11, .int pt)] [] [] H_1 locs_1 := ((hh.call hb_11 hb_12 hb_13 hb_14 hS_1 rfl (L1 := [(r0, 6, 9, .ref rb), (r0, 6, 10, .int pe), (r0, 6, 11, .int pt)]) [0, 1, 2] rfl rfl (M1 := []) [] rfl rfl (I1 := []) [] rfl rfl).more hb_15)
  clear hh ht_1 hvm_1 hz_1 hk_1 hS_1 hb_11 hb_12 hb_13 hb_14 hb_15
  obtain ⟨hr_2_0, hr_2_1, hr_2_2⟩ := hr_2
  refine lv_bipush (v := 45) hx hb dX4_number_4 (by decide) ?_
  refine lv_icmp_ne (tgt := 13) hx hb dX4_number_6 (by decide) (fun c_3 => ?_) (fun c_3 => ?_)
  · skip
    have c_3' : r_2.toInt ≠ 45 := jb_ne (rfl) ((by decide)) c_3
    try clear hr_2_2
    refine lv_iconst (v := 0) hx hb dX4_number_13 (by decide) ?_
    refine lv_istore_n (lv' := [(1, .int 0), (0, .ref r0)]) hx hb dX4_number_14 rfl hl (by decide) rfl (fun ls hl => ?_)
    refine lv_iload_n hx hb dX4_number_15 rfl (lv_at hl 0 rfl) ?_
    have C29 : ∀ (wt_4 : Int32) (H_4 : Heap) (locs_4 : List Loc), jSt (dC, dI) B base G0 G0 EX4_number s.heap 0 0 [(r0, 6, 11, .int wt_4), (r0, 6, 9, .ref rb), (r0, 6, 10, .int pe)] [] [] H_4 locs_4 → (pt.toInt ≤ wt_4.toInt ∧ wt_4.toInt ≤ pe.toInt) → ∀ ls : Array Slot, lv_has ls 8 [(0, .ref r0), (1, .int 0)] → W p l e R s m ([.ref r0] : List Value).toArray below meth c H_4 locs_4 0 0 Q (F0 m 29 ls []) := by
      intro wt_4 H_4 locs_4 hh_4  hi_4 ls hl
      obtain ⟨hi_4_0, hi_4_1⟩ := hi_4
      refine lv_aload_n hx hb dX4_number_29 rfl (lv_at hl 0 rfl) ?_
      refine j7_read hx hb hown hK (C := RX4) (T := TX4) (N := 12) rfl hly_6_11 hlk_47 (hh_4.at 0 rfl) dX4_number_30 ?_
      refine lv_istore_n (lv' := [(2, .int wt_4), (0, .ref r0), (1, .int 0)]) hx hb dX4_number_33 rfl hl (by decide) rfl (fun ls hl => ?_)
      refine lv_aload_n hx hb dX4_number_34 rfl (lv_at hl 1 rfl) ?_
      refine va_calli (A0 := jA base) (H0 := s.heap) (va_runV (As := []) (rest := []) ⟨hx, hb, hml, hown, hts⟩ (uX4_digits l dC dI ca base B hB hAp hB6 hB100 G0 H_4 r0 rb n_rb pe wt_4) (cwV 0 hts (jgV (jWr_23 _ (List.mem_of_getElem? (i := 1) rfl)) (jWr_23 _ (List.mem_of_getElem? (i := 2) rfl)) (jWr_23 _ (List.mem_of_getElem? (i := 3) rfl)) (jWr_1 _ (List.mem_of_getElem? (i := 22) rfl)) (jWr_23 _ (List.mem_of_getElem? (i := 4) rfl))) rfl rfl rfl (by decide +kernel) ⟨by rw [← hR]; exact Nat.le_of_ble_eq_true rfl, by rw [← hR]; exact Nat.le_of_ble_eq_true rfl⟩) ⟨fun a U g mk q => by obtain ⟨q0, q1, q2, qK, q10, q11, q12, q13⟩ := q; exact ⟨q0, q1, q2, jG.calling g mk a qK, q10, q11, q12, q13⟩, hh_4.recv (C := RX4) (T := TX4) (N := 12) hB6 rfl (by decide) hg_r0 hK, fun U hU hW => ⟨rfl, hU, hh_4.2.1, hG.step hW hU hh_4.1, hg_r0, hg_rb, (hh_4.2.2.1.sub (L1 := [(r0, 6, 9, .ref rb), (r0, 6, 10, .int pe), (r0, 6, 11, .int wt_4)]) [1, 2, 0] rfl), by first | omega | (refine ⟨?_, ?_, ?_, ?_, ?_, ?_⟩ <;> (first | omega | rfl | assumption | decide | exact Or.inl rfl | exact Or.inr rfl | (simp only; omega)))⟩⟩ rfl rfl hl.1 rfl (lv_room (Nat.le_of_ble_eq_true rfl)) dX4_number_35 ⟨Nat.zero_le _, Nat.zero_le _⟩) hh_4.1 (fun q _ h => h) (fun q h => h) (fun r_6 u_5 t_5 H_5 locs_5 ht_5 hvm_5 hr_6 hb_5 hz_5 hk_5 hS_5 => ?_)
      obtain ⟨qt_5, rfl⟩ : ∃ z, z = u_5 := ⟨_, rfl⟩
      rw [ht_5] at hb_5
      obtain ⟨hb_51, hb_52, hb_53, hb_54, hb_55⟩ := hb_5
      have hh_5 : jSt (dC, dI) B base G0 G0 EX4_number s.heap 0 0 [(r0, 6, 11, .int qt_5), (r0, 6, 9, .ref rb), (r0, 6, 10, .int pe)] [] [] H_5 locs_5 := ((hh_4.call hb_51 hb_52 hb_53 hb_54 hS_5 rfl (L1 := [(r0, 6, 9, .ref rb), (r0, 6, 10, .int pe)]) [1, 2] rfl rfl (M1 := []) [] rfl rfl (I1 := []) [] rfl rfl).more hb_55)
      clear hh_4 ht_5 hvm_5 hz_5 hk_5 hS_5 hb_51 hb_52 hb_53 hb_54 hb_55
      obtain ⟨hr_6_0, hr_6_1, hr_6_2⟩ := hr_6
      refine lv_istore_n (lv' := [(3, .int r_6), (2, .int wt_4), (0, .ref r0), (1, .int 0)]) hx hb dX4_number_38 rfl hl (by decide) rfl (fun ls hl => ?_)
      refine lv_iload_n hx hb dX4_number_39 rfl (lv_at hl 0 rfl) ?_
      refine lv_if_eq (tgt := 59) hx hb dX4_number_40 (by decide) (fun c_7 => ?_) (fun c_7 => ?_)
      · skip
        have c_7' : r_6.toInt = 0 := jb_eq (rfl) ((by decide)) c_7
        refine lv_iconst (v := (-1)) hx hb dX4_number_59 (by decide) ?_
        rw [hQ]
        exact W.iret (v := (-1)) hx hb hr (fun t ht hW => ⟨⟨(-1), qt_5, rfl, by first | omega | (refine ⟨?_, ?_, ?_, ?_⟩ <;> (first | omega | rfl | assumption | decide | exact Or.inl rfl | exact Or.inr rfl | (simp only; omega))), hh_5.rt (M1 := [(r0, 6, 11, .int qt_5)]) [0] rfl ht⟩, by rw [ht]; try exact hh_5.1.1, fun q h9 hq => by rw [ht]; try exact hh_5.1.2.1 q h9 hq⟩) hh_5.1.2.2 dX4_number_60
      · skip
        have c_7' : r_6.toInt ≠ 0 := jb_eq_n (rfl) ((by decide)) c_7
        refine lv_iload_n hx hb dX4_number_43 rfl (lv_at hl 0 rfl) ?_
        refine lv_iconst (v := 1) hx hb dX4_number_44 (by decide) ?_
        have C61 : ∀ (H_8 : Heap) (locs_8 : List Loc), jSt (dC, dI) B base G0 G0 EX4_number s.heap 0 0 [(r0, 6, 11, .int qt_5), (r0, 6, 9, .ref rb), (r0, 6, 10, .int pe)] [] [] H_8 locs_8 → (True) → ∀ ls : Array Slot, lv_has ls 8 [(0, .ref r0), (1, .int 0), (2, .int wt_4), (3, .int r_6)] → W p l e R s m ([.ref r0] : List Value).toArray below meth c H_8 locs_8 0 0 Q (F0 m 61 ls []) := by
          intro  H_8 locs_8 hh_8  hi_8 ls hl
          refine lv_iconst (v := 1) hx hb dX4_number_61 (by decide) ?_
          refine lv_istore (lv' := [(4, .int 1), (0, .ref r0), (1, .int 0), (2, .int wt_4), (3, .int r_6)]) hx hb dX4_number_62 hl (by decide) rfl (fun ls hl => ?_)
          refine lv_aload_n hx hb dX4_number_64 rfl (lv_at hl 1 rfl) ?_
          refine va_calli (A0 := jA base) (H0 := s.heap) (va_runV (As := []) (rest := []) ⟨hx, hb, hml, hown, hts⟩ (uX4_peek l dC dI ca base B hB hAp hB6 hB100 G0 H_8 r0 rb n_rb pe qt_5) (cwV 0 hts (jgV (jWr_19 _ (List.mem_of_getElem? (i := 19) rfl)) (jWr_19 _ (List.mem_of_getElem? (i := 20) rfl)) (jWr_19 _ (List.mem_of_getElem? (i := 21) rfl)) (jWr_1 _ (List.mem_of_getElem? (i := 22) rfl)) (jWr_19 _ (List.mem_of_getElem? (i := 22) rfl))) rfl rfl rfl (by decide +kernel) ⟨by rw [← hR]; exact Nat.le_of_ble_eq_true rfl, by rw [← hR]; exact Nat.le_of_ble_eq_true rfl⟩) ⟨fun a U g mk q => by obtain ⟨q0, q1, q2, qK, q10, q11, q12, q13⟩ := q; exact ⟨q0, q1, q2, jG.calling g mk a qK, q10, q11, q12, q13⟩, hh_8.recv (C := RX4) (T := TX4) (N := 12) hB6 rfl (by decide) hg_r0 hK, fun U hU hW => ⟨rfl, hU, hh_8.2.1, hG.step hW hU hh_8.1, hg_r0, hg_rb, (hh_8.2.2.1.sub (L1 := [(r0, 6, 9, .ref rb), (r0, 6, 10, .int pe), (r0, 6, 11, .int qt_5)]) [1, 2, 0] rfl), by first | omega | (refine ⟨?_, ?_, ?_, ?_, ?_⟩ <;> (first | omega | rfl | assumption | decide | exact Or.inl rfl | exact Or.inr rfl | (simp only; omega)))⟩⟩ rfl rfl hl.1 rfl (lv_room (Nat.le_of_ble_eq_true rfl)) dX4_number_65 ⟨Nat.zero_le _, Nat.zero_le _⟩) hh_8.1 (fun q _ h => h) (fun q h => h) (fun r_10 u_9 t_9 H_9 locs_9 ht_9 hvm_9 hr_10 hb_9 hz_9 hk_9 hS_9 => ?_)
          rw [ht_9] at hb_9
          obtain ⟨hb_91, hb_92, hb_93, hb_94, hb_95⟩ := hb_9
          have hh_9 : jSt (dC, dI) B base G0 G0 EX4_number s.heap 0 0 [(r0, 6, 11, .int qt_5), (r0, 6, 9, .ref rb), (r0, 6, 10, .int pe)] [] [] H_9 locs_9 := ((hh_8.call hb_91 hb_92 hb_93 hb_94 hS_9 rfl (L1 := [(r0, 6, 11, .int qt_5), (r0, 6, 9, .ref rb), (r0, 6, 10, .int pe)]) [0, 1, 2] rfl rfl (M1 := []) [] rfl rfl (I1 := []) [] rfl rfl).more hb_95)
          clear hh_8 ht_9 hvm_9 hz_9 hk_9 hS_9 hb_91 hb_92 hb_93 hb_94 hb_95
          obtain ⟨hr_10_0, hr_10_1, hr_10_2⟩ := hr_10
          refine lv_bipush (v := 46) hx hb dX4_number_68 (by decide) ?_
          have C95 : ∀ (v4_11 : Int32) (wt_11 : Int32) (H_11 : Heap) (locs_11 : List Loc), jSt (dC, dI) B base G0 G0 EX4_number s.heap 0 0 [(r0, 6, 11, .int wt_11), (r0, 6, 9, .ref rb), (r0, 6, 10, .int pe)] [] [] H_11 locs_11 → (v4_11 = 0 ∨ v4_11 = 1) → (pt.toInt ≤ wt_11.toInt ∧ wt_11.toInt ≤ pe.toInt ∧ qt_5.toInt ≤ wt_11.toInt) → ∀ ls : Array Slot, lv_has ls 8 [(0, .ref r0), (1, .int 0), (2, .int wt_4), (3, .int r_6), (4, .int v4_11)] → W p l e R s m ([.ref r0] : List Value).toArray below meth c H_11 locs_11 0 0 Q (F0 m 95 ls []) := by
            intro v4_11 wt_11 H_11 locs_11 hh_11 hb_v4_11 hi_11 ls hl
            obtain ⟨hi_11_0, hi_11_1, hi_11_2⟩ := hi_11
            have hb_v4_11' := jb_01 hb_v4_11
            try clear hr_10_2
            refine lv_aload_n hx hb dX4_number_95 rfl (lv_at hl 0 rfl) ?_
            refine va_calli (A0 := jA base) (H0 := s.heap) (va_runV (As := []) (rest := []) ⟨hx, hb, hml, hown, hts⟩ (uX4_peek l dC dI ca base B hB hAp hB6 hB100 G0 H_11 r0 rb n_rb pe wt_11) (cwV 0 hts (jgV (jWr_19 _ (List.mem_of_getElem? (i := 19) rfl)) (jWr_19 _ (List.mem_of_getElem? (i := 20) rfl)) (jWr_19 _ (List.mem_of_getElem? (i := 21) rfl)) (jWr_1 _ (List.mem_of_getElem? (i := 22) rfl)) (jWr_19 _ (List.mem_of_getElem? (i := 22) rfl))) rfl rfl rfl (by decide +kernel) ⟨by rw [← hR]; exact Nat.le_of_ble_eq_true rfl, by rw [← hR]; exact Nat.le_of_ble_eq_true rfl⟩) ⟨fun a U g mk q => by obtain ⟨q0, q1, q2, qK, q10, q11, q12, q13⟩ := q; exact ⟨q0, q1, q2, jG.calling g mk a qK, q10, q11, q12, q13⟩, hh_11.recv (C := RX4) (T := TX4) (N := 12) hB6 rfl (by decide) hg_r0 hK, fun U hU hW => ⟨rfl, hU, hh_11.2.1, hG.step hW hU hh_11.1, hg_r0, hg_rb, (hh_11.2.2.1.sub (L1 := [(r0, 6, 9, .ref rb), (r0, 6, 10, .int pe), (r0, 6, 11, .int wt_11)]) [1, 2, 0] rfl), by first | omega | (refine ⟨?_, ?_, ?_, ?_, ?_⟩ <;> (first | omega | rfl | assumption | decide | exact Or.inl rfl | exact Or.inr rfl | (simp only; omega)))⟩⟩ rfl rfl hl.1 rfl (lv_room (Nat.le_of_ble_eq_true rfl)) dX4_number_96 ⟨Nat.zero_le _, Nat.zero_le _⟩) hh_11.1 (fun q _ h => h) (fun q h => h) (fun r_13 u_12 t_12 H_12 locs_12 ht_12 hvm_12 hr_13 hb_12 hz_12 hk_12 hS_12 => ?_)
            rw [ht_12] at hb_12
            obtain ⟨hb_121, hb_122, hb_123, hb_124, hb_125⟩ := hb_12
            have hh_12 : jSt (dC, dI) B base G0 G0 EX4_number s.heap 0 0 [(r0, 6, 11, .int wt_11), (r0, 6, 9, .ref rb), (r0, 6, 10, .int pe)] [] [] H_12 locs_12 := ((hh_11.call hb_121 hb_122 hb_123 hb_124 hS_12 rfl (L1 := [(r0, 6, 11, .int wt_11), (r0, 6, 9, .ref rb), (r0, 6, 10, .int pe)]) [0, 1, 2] rfl rfl (M1 := []) [] rfl rfl (I1 := []) [] rfl rfl).more hb_125)
            clear hh_11 ht_12 hvm_12 hz_12 hk_12 hS_12 hb_121 hb_122 hb_123 hb_124 hb_125
            obtain ⟨hr_13_0, hr_13_1, hr_13_2⟩ := hr_13
            refine lv_bipush (v := 101) hx hb dX4_number_99 (by decide) ?_
            have C163 : ∀ (v4_14 : Int32) (wt_14 : Int32) (H_14 : Heap) (locs_14 : List Loc), jSt (dC, dI) B base G0 G0 EX4_number s.heap 0 0 [(r0, 6, 11, .int wt_14), (r0, 6, 9, .ref rb), (r0, 6, 10, .int pe)] [] [] H_14 locs_14 → (v4_14 = 0 ∨ v4_14 = 1) → (pt.toInt ≤ wt_14.toInt ∧ wt_14.toInt ≤ pe.toInt ∧ wt_11.toInt ≤ wt_14.toInt) → ∀ ls : Array Slot, lv_has ls 8 [(0, .ref r0), (1, .int 0), (2, .int wt_4), (3, .int r_6), (4, .int v4_14)] → W p l e R s m ([.ref r0] : List Value).toArray below meth c H_14 locs_14 0 0 Q (F0 m 163 ls []) := by
              intro v4_14 wt_14 H_14 locs_14 hh_14 hb_v4_14 hi_14 ls hl
              obtain ⟨hi_14_0, hi_14_1, hi_14_2⟩ := hi_14
              have hb_v4_14' := jb_01 hb_v4_14
              try clear hr_13_2
              refine lv_lconst (v := 0) hx hb dX4_number_163 (by decide) ?_
              refine lv_lstore (lv' := [(5, .long 0), (0, .ref r0), (1, .int 0), (2, .int wt_4), (3, .int r_6), (4, .int v4_14)]) hx hb dX4_number_164 hl (by decide) rfl (fun ls hl => ?_)
              refine lv_iload_n hx hb dX4_number_166 rfl (lv_at hl 3 rfl) ?_
              refine lv_istore (lv' := [(7, .int wt_4), (5, .long 0), (0, .ref r0), (1, .int 0), (2, .int wt_4), (3, .int r_6), (4, .int v4_14)]) hx hb dX4_number_167 hl (by decide) rfl (fun ls hl => ?_)
              have L169 : ∀ (N : Nat) (v5_15 : Int64) (v7_15 : Int32) (H_15 : Heap) (locs_15 : List Loc), jSt (dC, dI) B base G0 G0 EX4_number s.heap 0 0 [(r0, 6, 11, .int wt_14), (r0, 6, 9, .ref rb), (r0, 6, 10, .int pe)] [] [] H_15 locs_15 → (wt_4.toInt ≤ v7_15.toInt ∧ v7_15.toInt ≤ wt_4.toInt + r_6.toInt) → (wt_4.toInt + r_6.toInt - v7_15.toInt : Int) < N → ∀ ls : Array Slot, lv_has ls 8 [(0, .ref r0), (1, .int 0), (2, .int wt_4), (3, .int r_6), (4, .int v4_14), (5, .long v5_15), (7, .int v7_15)] → W p l e R s m ([.ref r0] : List Value).toArray below meth c H_15 locs_15 0 0 Q (F0 m 169 ls []) := by
                intro N
                induction N with
                | zero => intro v5_15 v7_15 H_15 locs_15 hh_15  hi_15 hm; exact absurd hm (by omega)
                | succ N L169 =>
                  intro v5_15 v7_15 H_15 locs_15 hh_15  hi_15 hm_15 ls hl
                  obtain ⟨hi_15_0, hi_15_1⟩ := hi_15
                  refine lv_iload hx hb dX4_number_169 (lv_at hl 6 rfl) ?_
                  refine lv_iload_n hx hb dX4_number_171 rfl (lv_at hl 2 rfl) ?_
                  refine lv_iload_n hx hb dX4_number_172 rfl (lv_at hl 3 rfl) ?_
                  refine lv_iadd hx hb dX4_number_173 ?_
                  refine lv_topi (fun z_16 ez_16 => ?_)
                  have hz_16 : z_16.toInt = wt_4.toInt + r_6.toInt := by rw [ez_16]; exact jb_iadd2 (rfl) (rfl) (by omega)
                  have C213 : ∀ (v5_17 : Int64) (v7_17 : Int32) (H_17 : Heap) (locs_17 : List Loc), jSt (dC, dI) B base G0 G0 EX4_number s.heap 0 0 [(r0, 6, 11, .int wt_14), (r0, 6, 9, .ref rb), (r0, 6, 10, .int pe)] [] [] H_17 locs_17 → (True) → ∀ ls : Array Slot, lv_has ls 8 [(0, .ref r0), (1, .int 0), (2, .int wt_4), (3, .int r_6), (4, .int v4_14), (5, .long v5_17), (7, .int v7_17)] → W p l e R s m ([.ref r0] : List Value).toArray below meth c H_17 locs_17 0 0 Q (F0 m 213 ls []) := by
                    intro v5_17 v7_17 H_17 locs_17 hh_17  hi_17 ls hl
                    refine lv_iload_n hx hb dX4_number_213 rfl (lv_at hl 1 rfl) ?_
                    refine lv_if_eq (tgt := 223) hx hb dX4_number_214 (by decide) (fun c_18 => ?_) (fun c_18 => ?_)
                    · skip
                      refine lv_lload hx hb dX4_number_223 (lv_at hl 5 rfl) ?_
                      refine lv_lstore (lv' := [(5, .long v5_17), (0, .ref r0), (1, .int 0), (2, .int wt_4), (3, .int r_6), (4, .int v4_14), (7, .int v7_17)]) hx hb dX4_number_225 hl (by decide) rfl (fun ls hl => ?_)
                      refine lv_iload hx hb dX4_number_227 (lv_at hl 5 rfl) ?_
                      have C255 : ∀ (w0_19 : Int32) (H_19 : Heap) (locs_19 : List Loc), jSt (dC, dI) B base G0 G0 EX4_number s.heap 0 0 [(r0, 6, 11, .int wt_14), (r0, 6, 9, .ref rb), (r0, 6, 10, .int pe)] [] [] H_19 locs_19 → (w0_19 = 0 ∨ w0_19 = 1) → (True) → ∀ ls : Array Slot, lv_has ls 8 [(0, .ref r0), (1, .int 0), (2, .int wt_4), (3, .int r_6), (4, .int v4_14), (5, .long v5_17), (7, .int v7_17)] → W p l e R s m ([.ref r0] : List Value).toArray below meth c H_19 locs_19 0 0 Q (F0 m 255 ls [.int w0_19]) := by
                        intro w0_19 H_19 locs_19 hh_19 hb_w0_19 hi_19 ls hl
                        have hb_w0_19' := jb_01 hb_w0_19
                        refine lv_istore (lv' := [(4, .int w0_19), (0, .ref r0), (1, .int 0), (2, .int wt_4), (3, .int r_6), (5, .long v5_17), (7, .int v7_17)]) hx hb dX4_number_255 hl (by decide) rfl (fun ls hl => ?_)
                        refine lv_iload hx hb dX4_number_257 (lv_at hl 0 rfl) ?_
                        refine lv_if_eq (tgt := 274) hx hb dX4_number_259 (by decide) (fun c_20 => ?_) (fun c_20 => ?_)
                        · skip
                          have c_20' : w0_19.toInt = 0 := jb_eq (rfl) ((by decide)) c_20
                          refine lv_aload_n hx hb dX4_number_274 rfl (lv_at hl 1 rfl) ?_
                          refine lv_iconst (v := 5) hx hb dX4_number_275 (by decide) ?_
                          refine lv_iconst (v := 0) hx hb dX4_number_276 (by decide) ?_
                          refine lv_iconst (v := 0) hx hb dX4_number_277 (by decide) ?_
                          refine va_calli (A0 := jA base) (H0 := s.heap) (va_runV (As := [.int 5, .int 0, .int 0]) (rest := []) ⟨hx, hb, hml, hown, hts⟩ (uX4_make l dC dI ca base B hB hAp hB6 hB140 hB141 hB142 hB143 hB144 hB145 G0 H_19 r0 5 0 0) (cwV 3 hts (jgV (jWr_22 _ (List.mem_of_getElem? (i := 10) rfl)) (jWr_22 _ (List.mem_of_getElem? (i := 11) rfl)) (jWr_22 _ (List.mem_of_getElem? (i := 12) rfl)) (jWr_1 _ (List.mem_of_getElem? (i := 22) rfl)) (jWr_22 _ (List.mem_of_getElem? (i := 13) rfl))) rfl rfl rfl (by decide +kernel) ⟨by rw [← hR]; exact Nat.le_of_ble_eq_true rfl, by rw [← hR]; exact Nat.le_of_ble_eq_true rfl⟩) ⟨fun a U g mk q => by obtain ⟨q0, q1, q2, qK, q10, q11, q12⟩ := q; exact ⟨q0, q1, q2, jG.calling g mk a qK, q10, q11, q12⟩, hh_19.recv (C := RX4) (T := TX4) (N := 12) hB6 rfl (by decide) hg_r0 hK, fun U hU hW => ⟨rfl, hU, hh_19.2.1, hG.step hW hU hh_19.1, hg_r0, jP.nil, trivial⟩⟩ rfl rfl hl.1 rfl (lv_room (Nat.le_of_ble_eq_true rfl)) dX4_number_278 ⟨Nat.zero_le _, Nat.zero_le _⟩) hh_19.1 (fun q _ h => h) (fun q h => h) (fun r_22 u_21 t_21 H_21 locs_21 ht_21 hvm_21 hr_22 hb_21 hz_21 hk_21 hS_21 => ?_)
                          rw [ht_21] at hb_21
                          obtain ⟨hb_211, hb_212, hb_213, hb_214, hb_215⟩ := hb_21
                          have hh_21 : jSt (dC, dI) B base G0 G0 EX4_number s.heap 0 0 [(r0, 6, 11, .int wt_14), (r0, 6, 9, .ref rb), (r0, 6, 10, .int pe)] [] [] H_21 locs_21 := ((hh_19.call hb_211 hb_212 hb_213 hb_214 hS_21 rfl (L1 := [(r0, 6, 11, .int wt_14), (r0, 6, 9, .ref rb), (r0, 6, 10, .int pe)]) [0, 1, 2] rfl rfl (M1 := []) [] rfl rfl (I1 := []) [] rfl rfl).more hb_215)
                          clear hh_19 ht_21 hvm_21 hz_21 hk_21 hS_21 hb_211 hb_212 hb_213 hb_214 hb_215
                          obtain ⟨hr_22_0, hr_22_1⟩ := hr_22
                          rw [hQ]
                          exact W.iret (v := r_22) hx hb hr (fun t ht hW => ⟨⟨r_22, wt_14, rfl, by first | omega | (refine ⟨?_, ?_, ?_, ?_⟩ <;> (first | omega | rfl | assumption | decide | exact Or.inl rfl | exact Or.inr rfl | (simp only; omega))), hh_21.rt (M1 := [(r0, 6, 11, .int wt_14)]) [0] rfl ht⟩, by rw [ht]; try exact hh_21.1.1, fun q h9 hq => by rw [ht]; try exact hh_21.1.2.1 q h9 hq⟩) hh_21.1.2.2 dX4_number_281
                        · skip
                          have c_20' : w0_19.toInt ≠ 0 := jb_eq_n (rfl) ((by decide)) c_20
                          refine lv_aload_n hx hb dX4_number_262 rfl (lv_at hl 1 rfl) ?_
                          refine lv_iconst (v := 4) hx hb dX4_number_263 (by decide) ?_
                          refine lv_lload hx hb dX4_number_264 (lv_at hl 5 rfl) ?_
                          refine lv_l2i hx hb dX4_number_266 rfl ?_
                          refine lv_topi (fun z_23 ez_23 => ?_)
                          refine lv_iconst (v := 0) hx hb dX4_number_267 (by decide) ?_
                          refine va_calli (A0 := jA base) (H0 := s.heap) (va_runV (As := [.int 4, .int z_23, .int 0]) (rest := []) ⟨hx, hb, hml, hown, hts⟩ (uX4_make l dC dI ca base B hB hAp hB6 hB140 hB141 hB142 hB143 hB144 hB145 G0 H_19 r0 4 z_23 0) (cwV 3 hts (jgV (jWr_22 _ (List.mem_of_getElem? (i := 10) rfl)) (jWr_22 _ (List.mem_of_getElem? (i := 11) rfl)) (jWr_22 _ (List.mem_of_getElem? (i := 12) rfl)) (jWr_1 _ (List.mem_of_getElem? (i := 22) rfl)) (jWr_22 _ (List.mem_of_getElem? (i := 13) rfl))) rfl rfl rfl (by decide +kernel) ⟨by rw [← hR]; exact Nat.le_of_ble_eq_true rfl, by rw [← hR]; exact Nat.le_of_ble_eq_true rfl⟩) ⟨fun a U g mk q => by obtain ⟨q0, q1, q2, qK, q10, q11, q12⟩ := q; exact ⟨q0, q1, q2, jG.calling g mk a qK, q10, q11, q12⟩, hh_19.recv (C := RX4) (T := TX4) (N := 12) hB6 rfl (by decide) hg_r0 hK, fun U hU hW => ⟨rfl, hU, hh_19.2.1, hG.step hW hU hh_19.1, hg_r0, jP.nil, trivial⟩⟩ rfl rfl hl.1 rfl (lv_room (Nat.le_of_ble_eq_true rfl)) dX4_number_268 ⟨Nat.zero_le _, Nat.zero_le _⟩) hh_19.1 (fun q _ h => h) (fun q h => h) (fun r_25 u_24 t_24 H_24 locs_24 ht_24 hvm_24 hr_25 hb_24 hz_24 hk_24 hS_24 => ?_)
                          rw [ht_24] at hb_24
                          obtain ⟨hb_241, hb_242, hb_243, hb_244, hb_245⟩ := hb_24
                          have hh_24 : jSt (dC, dI) B base G0 G0 EX4_number s.heap 0 0 [(r0, 6, 11, .int wt_14), (r0, 6, 9, .ref rb), (r0, 6, 10, .int pe)] [] [] H_24 locs_24 := ((hh_19.call hb_241 hb_242 hb_243 hb_244 hS_24 rfl (L1 := [(r0, 6, 11, .int wt_14), (r0, 6, 9, .ref rb), (r0, 6, 10, .int pe)]) [0, 1, 2] rfl rfl (M1 := []) [] rfl rfl (I1 := []) [] rfl rfl).more hb_245)
                          clear hh_19 ht_24 hvm_24 hz_24 hk_24 hS_24 hb_241 hb_242 hb_243 hb_244 hb_245
                          obtain ⟨hr_25_0, hr_25_1⟩ := hr_25
                          refine lv_goto (tgt := 281) hx hb dX4_number_271 (by decide) ?_
                          rw [hQ]
                          exact W.iret (v := r_25) hx hb hr (fun t ht hW => ⟨⟨r_25, wt_14, rfl, by first | omega | (refine ⟨?_, ?_, ?_, ?_⟩ <;> (first | omega | rfl | assumption | decide | exact Or.inl rfl | exact Or.inr rfl | (simp only; omega))), hh_24.rt (M1 := [(r0, 6, 11, .int wt_14)]) [0] rfl ht⟩, by rw [ht]; try exact hh_24.1.1, fun q h9 hq => by rw [ht]; try exact hh_24.1.2.1 q h9 hq⟩) hh_24.1.2.2 dX4_number_281
                      refine lv_if_eq (tgt := 254) hx hb dX4_number_229 (by decide) (fun c_26 => ?_) (fun c_26 => ?_)
                      · skip
                        have c_26' : v4_14.toInt = 0 := jb_eq (rfl) ((by decide)) c_26
                        refine lv_iconst (v := 0) hx hb dX4_number_254 (by decide) ?_
                        exact C255 0 _ _ hh_17 (Or.inl rfl) (trivial) _ (lv_sub hl [1, 2, 3, 4, 5, 0, 6] rfl)
                      · skip
                        have c_26' : v4_14.toInt ≠ 0 := jb_eq_n (rfl) ((by decide)) c_26
                        refine lv_lload hx hb dX4_number_232 (lv_at hl 0 rfl) ?_
                        refine lv_ldc2 hx hb hown (htw (.constantLong RX4 136 (-2147483648)) (jWr_22 _ (List.mem_of_getElem? (i := 23) rfl))) dX4_number_234 ?_
                        refine W.lcmp hx hb dX4_number_237 ?_
                        refine lv_topi (fun z_27 ez_27 => ?_)
                        have hz_27 := jb_lcmp ez_27
                        have hqz_27_m2147483648 : ((-2147483648) : Int64).toInt = (-2147483648) := by decide
                        refine lv_if_lt (tgt := 254) hx hb dX4_number_238 (by decide) (fun c_28 => ?_) (fun c_28 => ?_)
                        · skip
                          have c_28' : z_27.toInt < 0 := jb_lt (rfl) ((by decide)) c_28
                          refine lv_iconst (v := 0) hx hb dX4_number_254 (by decide) ?_
                          exact C255 0 _ _ hh_17 (Or.inl rfl) (trivial) _ (lv_sub hl [1, 2, 3, 4, 5, 0, 6] rfl)
                        · skip
                          have c_28' : z_27.toInt ≥ 0 := jb_lt_n (rfl) ((by decide)) c_28
                          refine lv_lload hx hb dX4_number_241 (lv_at hl 0 rfl) ?_
                          refine lv_ldc2 hx hb hown (htw (.constantLong RX4 138 2147483647) (jWr_23 _ (List.mem_of_getElem? (i := 0) rfl))) dX4_number_243 ?_
                          refine W.lcmp hx hb dX4_number_246 ?_
                          refine lv_topi (fun z_29 ez_29 => ?_)
                          have hz_29 := jb_lcmp ez_29
                          have hqz_29_2147483647 : (2147483647 : Int64).toInt = 2147483647 := by decide
                          refine lv_if_gt (tgt := 254) hx hb dX4_number_247 (by decide) (fun c_30 => ?_) (fun c_30 => ?_)
                          · skip
                            have c_30' : z_29.toInt > 0 := jb_gt (rfl) ((by decide)) c_30
                            refine lv_iconst (v := 0) hx hb dX4_number_254 (by decide) ?_
                            exact C255 0 _ _ hh_17 (Or.inl rfl) (trivial) _ (lv_sub hl [1, 2, 3, 4, 5, 0, 6] rfl)
                          · skip
                            have c_30' : z_29.toInt ≤ 0 := jb_gt_n (rfl) ((by decide)) c_30
                            refine lv_iconst (v := 1) hx hb dX4_number_250 (by decide) ?_
                            refine lv_goto (tgt := 255) hx hb dX4_number_251 (by decide) ?_
                            exact C255 1 _ _ hh_17 (Or.inr rfl) (trivial) _ (lv_sub hl [1, 2, 3, 4, 5, 0, 6] rfl)
                    · skip
                      exact absurd c_18 (by decide)
                  refine lv_icmp_ge (tgt := 213) hx hb dX4_number_174 (by decide) (fun c_31 => ?_) (fun c_31 => ?_)
                  · skip
                    have c_31' : v7_15.toInt ≥ z_16.toInt := jb_ge (rfl) (rfl) c_31
                    exact C213 v5_15 v7_15 _ _ hh_15 (trivial) _ (lv_sub hl [0, 1, 2, 3, 4, 5, 6] rfl)
                  · skip
                    have c_31' : v7_15.toInt < z_16.toInt := jb_ge_n (rfl) (rfl) c_31
                    refine lv_lload hx hb dX4_number_177 (lv_at hl 5 rfl) ?_
                    refine lv_ldc2 hx hb hown (htw (.constantLong RX4 130 2147483648) (jWr_22 _ (List.mem_of_getElem? (i := 20) rfl))) dX4_number_179 ?_
                    refine W.lcmp hx hb dX4_number_182 ?_
                    refine lv_topi (fun z_32 ez_32 => ?_)
                    have hz_32 := jb_lcmp ez_32
                    have hqz_32_2147483648 : (2147483648 : Int64).toInt = 2147483648 := by decide
                    refine lv_if_gt (tgt := 213) hx hb dX4_number_183 (by decide) (fun c_33 => ?_) (fun c_33 => ?_)
                    · skip
                      have c_33' : z_32.toInt > 0 := jb_gt (rfl) ((by decide)) c_33
                      exact C213 v5_15 v7_15 _ _ hh_15 (trivial) _ (lv_sub hl [0, 1, 2, 3, 4, 5, 6] rfl)
                    · skip
                      have c_33' : z_32.toInt ≤ 0 := jb_gt_n (rfl) ((by decide)) c_33
                      refine lv_lload hx hb dX4_number_186 (lv_at hl 5 rfl) ?_
                      refine lv_ldc2 hx hb hown (htw (.constantLong RX4 132 10) (jWr_22 _ (List.mem_of_getElem? (i := 21) rfl))) dX4_number_188 ?_
                      refine lv_lmul hx hb dX4_number_191 ?_
                      refine lv_topl (fun z_34 ez_34 => ?_)
                      refine lv_aload_n hx hb dX4_number_192 rfl (lv_at hl 0 rfl) ?_
                      refine j7_read hx hb hown hK (C := RX4) (T := TX4) (N := 12) rfl hly_6_9 hlk_33 (hh_15.at 1 rfl) dX4_number_193 ?_
                      refine lv_iload hx hb dX4_number_196 (lv_at hl 6 rfl) ?_
                      refine j7_bald hx hb hK hh_15 hB100 0 rfl (by decide) hg_rb (x := v7_15.toInt) (rfl) (by omega) dX4_number_198 (fun z_35 (hz_35 : True) => ?_)
                      refine lv_i2l hx hb dX4_number_199 rfl ?_
                      refine lv_topl (fun z_36 ez_36 => ?_)
                      refine lv_ladd hx hb dX4_number_200 ?_
                      refine lv_topl (fun z_37 ez_37 => ?_)
                      refine lv_ldc2 hx hb hown (htw (.constantLong RX4 134 48) (jWr_22 _ (List.mem_of_getElem? (i := 22) rfl))) dX4_number_201 ?_
                      refine lv_lsub hx hb dX4_number_204 ?_
                      refine lv_topl (fun z_38 ez_38 => ?_)
                      refine lv_lstore (lv' := [(5, .long z_38), (0, .ref r0), (1, .int 0), (2, .int wt_4), (3, .int r_6), (4, .int v4_14), (7, .int v7_15)]) hx hb dX4_number_205 hl (by decide) rfl (fun ls hl => ?_)
                      obtain ⟨z_39, ez_39⟩ : ∃ y : Int32, y = v7_15 + 1 := ⟨_, rfl⟩
                      refine lv_iinc (v := z_39) (lv' := [(7, .int z_39), (5, .long z_38), (0, .ref r0), (1, .int 0), (2, .int wt_4), (3, .int r_6), (4, .int v4_14)]) hx hb dX4_number_207 hl (k := 6) rfl (by rw [ez_39]; rfl) (by decide) rfl (fun ls hl => ?_)
                      have hz_39 : z_39.toInt = v7_15.toInt + 1 := by rw [ez_39]; exact jb_iadd2 (rfl) (by decide) (by omega)
                      refine lv_goto (tgt := 169) hx hb dX4_number_210 (by decide) ?_
                      exact L169 z_38 z_39 _ _ hh_15 (by first | omega | (refine ⟨?_, ?_⟩ <;> (first | omega | rfl | assumption | decide | exact Or.inl rfl | exact Or.inr rfl | (simp only; omega)))) (by omega) _ (lv_sub hl [2, 3, 4, 5, 6, 1, 0] rfl)
              exact L169 (wt_4.toInt + r_6.toInt - (wt_4 : Int32).toInt : Int).toNat.succ 0 wt_4 _ _ hh_14 (by first | omega | (refine ⟨?_, ?_⟩ <;> (first | omega | rfl | assumption | decide | exact Or.inl rfl | exact Or.inr rfl | (simp only; omega)))) (by omega) _ (lv_sub hl [2, 3, 4, 5, 6, 1, 0] rfl)
            refine lv_icmp_eq (tgt := 113) hx hb dX4_number_101 (by decide) (fun c_40 => ?_) (fun c_40 => ?_)
            · skip
              have c_40' : r_13.toInt = 101 := jb_eq (rfl) ((by decide)) c_40
              first | (have hr_13_2q := hr_13_2.resolve_left (by omega); clear hr_13_2) | (have hr_13_2q := hr_13_2.resolve_right (by omega); clear hr_13_2) | try clear hr_13_2
              refine lv_iconst (v := 0) hx hb dX4_number_113 (by decide) ?_
              refine lv_istore (lv' := [(4, .int 0), (0, .ref r0), (1, .int 0), (2, .int wt_4), (3, .int r_6)]) hx hb dX4_number_114 hl (by decide) rfl (fun ls hl => ?_)
              refine lv_aload_n hx hb dX4_number_116 rfl (lv_at hl 1 rfl) ?_
              refine lv_dup hx hb dX4_number_117 rfl ?_
              refine j7_read hx hb hown hK (C := RX4) (T := TX4) (N := 12) rfl hly_6_11 hlk_47 (hh_12.at 0 rfl) dX4_number_118 ?_
              refine lv_iconst (v := 1) hx hb dX4_number_121 (by decide) ?_
              refine lv_iadd hx hb dX4_number_122 ?_
              refine lv_topi (fun z_41 ez_41 => ?_)
              have hz_41 : z_41.toInt = wt_11.toInt + 1 := by rw [ez_41]; exact jb_iadd2 (rfl) ((by decide)) (by omega)
              refine j7_put hx hb hown hK hh_12 hB hAp hB6 (C := RX4) (T := TX4) (N := 12) rfl (by decide) hg_r0 (i := 11) (by decide) hly_6_11 rfl hlk_47 rfl (ty := .int) (v := .int z_41) (by decide +kernel) rfl rfl (⟨_, rfl, by omega, by omega⟩) rfl (L1 := [(r0, 6, 9, .ref rb), (r0, 6, 10, .int pe)]) [1, 2] rfl rfl rfl dX4_number_123 (fun H_42 locs_42 hh_42 => ?_)
              clear hh_12
              refine lv_aload_n hx hb dX4_number_126 rfl (lv_at hl 1 rfl) ?_
              refine va_calli (A0 := jA base) (H0 := s.heap) (va_runV (As := []) (rest := []) ⟨hx, hb, hml, hown, hts⟩ (uX4_peek l dC dI ca base B hB hAp hB6 hB100 G0 H_42 r0 rb n_rb pe z_41) (cwV 0 hts (jgV (jWr_19 _ (List.mem_of_getElem? (i := 19) rfl)) (jWr_19 _ (List.mem_of_getElem? (i := 20) rfl)) (jWr_19 _ (List.mem_of_getElem? (i := 21) rfl)) (jWr_1 _ (List.mem_of_getElem? (i := 22) rfl)) (jWr_19 _ (List.mem_of_getElem? (i := 22) rfl))) rfl rfl rfl (by decide +kernel) ⟨by rw [← hR]; exact Nat.le_of_ble_eq_true rfl, by rw [← hR]; exact Nat.le_of_ble_eq_true rfl⟩) ⟨fun a U g mk q => by obtain ⟨q0, q1, q2, qK, q10, q11, q12, q13⟩ := q; exact ⟨q0, q1, q2, jG.calling g mk a qK, q10, q11, q12, q13⟩, hh_42.recv (C := RX4) (T := TX4) (N := 12) hB6 rfl (by decide) hg_r0 hK, fun U hU hW => ⟨rfl, hU, hh_42.2.1, hG.step hW hU hh_42.1, hg_r0, hg_rb, (hh_42.2.2.1.sub (L1 := [(r0, 6, 9, .ref rb), (r0, 6, 10, .int pe), (r0, 6, 11, .int z_41)]) [1, 2, 0] rfl), by first | omega | (refine ⟨?_, ?_, ?_, ?_, ?_⟩ <;> (first | omega | rfl | assumption | decide | exact Or.inl rfl | exact Or.inr rfl | (simp only; omega)))⟩⟩ rfl rfl hl.1 rfl (lv_room (Nat.le_of_ble_eq_true rfl)) dX4_number_127 ⟨Nat.zero_le _, Nat.zero_le _⟩) hh_42.1 (fun q _ h => h) (fun q h => h) (fun r_44 u_43 t_43 H_43 locs_43 ht_43 hvm_43 hr_44 hb_43 hz_43 hk_43 hS_43 => ?_)
              rw [ht_43] at hb_43
              obtain ⟨hb_431, hb_432, hb_433, hb_434, hb_435⟩ := hb_43
              have hh_43 : jSt (dC, dI) B base G0 G0 EX4_number s.heap 0 0 [(r0, 6, 11, .int z_41), (r0, 6, 9, .ref rb), (r0, 6, 10, .int pe)] [] [] H_43 locs_43 := ((hh_42.call hb_431 hb_432 hb_433 hb_434 hS_43 rfl (L1 := [(r0, 6, 11, .int z_41), (r0, 6, 9, .ref rb), (r0, 6, 10, .int pe)]) [0, 1, 2] rfl rfl (M1 := []) [] rfl rfl (I1 := []) [] rfl rfl).more hb_435)
              clear hh_42 ht_43 hvm_43 hz_43 hk_43 hS_43 hb_431 hb_432 hb_433 hb_434 hb_435
              obtain ⟨hr_44_0, hr_44_1, hr_44_2⟩ := hr_44
              refine lv_bipush (v := 43) hx hb dX4_number_130 (by decide) ?_
              have C154 : ∀ (wt_45 : Int32) (H_45 : Heap) (locs_45 : List Loc), jSt (dC, dI) B base G0 G0 EX4_number s.heap 0 0 [(r0, 6, 11, .int wt_45), (r0, 6, 9, .ref rb), (r0, 6, 10, .int pe)] [] [] H_45 locs_45 → (pt.toInt ≤ wt_45.toInt ∧ wt_45.toInt ≤ pe.toInt ∧ z_41.toInt ≤ wt_45.toInt) → ∀ ls : Array Slot, lv_has ls 8 [(0, .ref r0), (1, .int 0), (2, .int wt_4), (3, .int r_6), (4, .int 0)] → W p l e R s m ([.ref r0] : List Value).toArray below meth c H_45 locs_45 0 0 Q (F0 m 154 ls []) := by
                intro wt_45 H_45 locs_45 hh_45  hi_45 ls hl
                obtain ⟨hi_45_0, hi_45_1, hi_45_2⟩ := hi_45
                try clear hr_44_2
                refine lv_aload_n hx hb dX4_number_154 rfl (lv_at hl 0 rfl) ?_
                refine va_calli (A0 := jA base) (H0 := s.heap) (va_runV (As := []) (rest := []) ⟨hx, hb, hml, hown, hts⟩ (uX4_digits l dC dI ca base B hB hAp hB6 hB100 G0 H_45 r0 rb n_rb pe wt_45) (cwV 0 hts (jgV (jWr_23 _ (List.mem_of_getElem? (i := 1) rfl)) (jWr_23 _ (List.mem_of_getElem? (i := 2) rfl)) (jWr_23 _ (List.mem_of_getElem? (i := 3) rfl)) (jWr_1 _ (List.mem_of_getElem? (i := 22) rfl)) (jWr_23 _ (List.mem_of_getElem? (i := 4) rfl))) rfl rfl rfl (by decide +kernel) ⟨by rw [← hR]; exact Nat.le_of_ble_eq_true rfl, by rw [← hR]; exact Nat.le_of_ble_eq_true rfl⟩) ⟨fun a U g mk q => by obtain ⟨q0, q1, q2, qK, q10, q11, q12, q13⟩ := q; exact ⟨q0, q1, q2, jG.calling g mk a qK, q10, q11, q12, q13⟩, hh_45.recv (C := RX4) (T := TX4) (N := 12) hB6 rfl (by decide) hg_r0 hK, fun U hU hW => ⟨rfl, hU, hh_45.2.1, hG.step hW hU hh_45.1, hg_r0, hg_rb, (hh_45.2.2.1.sub (L1 := [(r0, 6, 9, .ref rb), (r0, 6, 10, .int pe), (r0, 6, 11, .int wt_45)]) [1, 2, 0] rfl), by first | omega | (refine ⟨?_, ?_, ?_, ?_, ?_, ?_⟩ <;> (first | omega | rfl | assumption | decide | exact Or.inl rfl | exact Or.inr rfl | (simp only; omega)))⟩⟩ rfl rfl hl.1 rfl (lv_room (Nat.le_of_ble_eq_true rfl)) dX4_number_155 ⟨Nat.zero_le _, Nat.zero_le _⟩) hh_45.1 (fun q _ h => h) (fun q h => h) (fun r_47 u_46 t_46 H_46 locs_46 ht_46 hvm_46 hr_47 hb_46 hz_46 hk_46 hS_46 => ?_)
                obtain ⟨qt_46, rfl⟩ : ∃ z, z = u_46 := ⟨_, rfl⟩
                rw [ht_46] at hb_46
                obtain ⟨hb_461, hb_462, hb_463, hb_464, hb_465⟩ := hb_46
                have hh_46 : jSt (dC, dI) B base G0 G0 EX4_number s.heap 0 0 [(r0, 6, 11, .int qt_46), (r0, 6, 9, .ref rb), (r0, 6, 10, .int pe)] [] [] H_46 locs_46 := ((hh_45.call hb_461 hb_462 hb_463 hb_464 hS_46 rfl (L1 := [(r0, 6, 9, .ref rb), (r0, 6, 10, .int pe)]) [1, 2] rfl rfl (M1 := []) [] rfl rfl (I1 := []) [] rfl rfl).more hb_465)
                clear hh_45 ht_46 hvm_46 hz_46 hk_46 hS_46 hb_461 hb_462 hb_463 hb_464 hb_465
                obtain ⟨hr_47_0, hr_47_1, hr_47_2⟩ := hr_47
                refine lv_if_ne (tgt := 163) hx hb dX4_number_158 (by decide) (fun c_48 => ?_) (fun c_48 => ?_)
                · skip
                  have c_48' : r_47.toInt ≠ 0 := jb_ne (rfl) ((by decide)) c_48
                  exact C163 0 qt_46 _ _ hh_46 (Or.inl rfl) (by first | omega | (refine ⟨?_, ?_, ?_⟩ <;> (first | omega | rfl | assumption | decide | exact Or.inl rfl | exact Or.inr rfl | (simp only; omega)))) _ (lv_sub hl [0, 1, 2, 3, 4] rfl)
                · skip
                  have c_48' : r_47.toInt = 0 := jb_ne_n (rfl) ((by decide)) c_48
                  refine lv_iconst (v := (-1)) hx hb dX4_number_161 (by decide) ?_
                  rw [hQ]
                  exact W.iret (v := (-1)) hx hb hr (fun t ht hW => ⟨⟨(-1), qt_46, rfl, by first | omega | (refine ⟨?_, ?_, ?_, ?_⟩ <;> (first | omega | rfl | assumption | decide | exact Or.inl rfl | exact Or.inr rfl | (simp only; omega))), hh_46.rt (M1 := [(r0, 6, 11, .int qt_46)]) [0] rfl ht⟩, by rw [ht]; try exact hh_46.1.1, fun q h9 hq => by rw [ht]; try exact hh_46.1.2.1 q h9 hq⟩) hh_46.1.2.2 dX4_number_162
              refine lv_icmp_eq (tgt := 144) hx hb dX4_number_132 (by decide) (fun c_49 => ?_) (fun c_49 => ?_)
              · skip
                have c_49' : r_44.toInt = 43 := jb_eq (rfl) ((by decide)) c_49
                first | (have hr_44_2q := hr_44_2.resolve_left (by omega); clear hr_44_2) | (have hr_44_2q := hr_44_2.resolve_right (by omega); clear hr_44_2) | try clear hr_44_2
                refine lv_aload_n hx hb dX4_number_144 rfl (lv_at hl 1 rfl) ?_
                refine lv_dup hx hb dX4_number_145 rfl ?_
                refine j7_read hx hb hown hK (C := RX4) (T := TX4) (N := 12) rfl hly_6_11 hlk_47 (hh_43.at 0 rfl) dX4_number_146 ?_
                refine lv_iconst (v := 1) hx hb dX4_number_149 (by decide) ?_
                refine lv_iadd hx hb dX4_number_150 ?_
                refine lv_topi (fun z_50 ez_50 => ?_)
                have hz_50 : z_50.toInt = z_41.toInt + 1 := by rw [ez_50]; exact jb_iadd2 (rfl) ((by decide)) (by omega)
                refine j7_put hx hb hown hK hh_43 hB hAp hB6 (C := RX4) (T := TX4) (N := 12) rfl (by decide) hg_r0 (i := 11) (by decide) hly_6_11 rfl hlk_47 rfl (ty := .int) (v := .int z_50) (by decide +kernel) rfl rfl (⟨_, rfl, by omega, by omega⟩) rfl (L1 := [(r0, 6, 9, .ref rb), (r0, 6, 10, .int pe)]) [1, 2] rfl rfl rfl dX4_number_151 (fun H_51 locs_51 hh_51 => ?_)
                clear hh_43
                exact C154 z_50 _ _ hh_51 (by first | omega | (refine ⟨?_, ?_, ?_⟩ <;> (first | omega | rfl | assumption | decide | exact Or.inl rfl | exact Or.inr rfl | (simp only; omega)))) _ (lv_sub hl [1, 2, 3, 4, 0] rfl)
              · skip
                have c_49' : r_44.toInt ≠ 43 := jb_eq_n (rfl) ((by decide)) c_49
                try clear hr_44_2
                refine lv_aload_n hx hb dX4_number_135 rfl (lv_at hl 1 rfl) ?_
                refine va_calli (A0 := jA base) (H0 := s.heap) (va_runV (As := []) (rest := []) ⟨hx, hb, hml, hown, hts⟩ (uX4_peek l dC dI ca base B hB hAp hB6 hB100 G0 H_43 r0 rb n_rb pe z_41) (cwV 0 hts (jgV (jWr_19 _ (List.mem_of_getElem? (i := 19) rfl)) (jWr_19 _ (List.mem_of_getElem? (i := 20) rfl)) (jWr_19 _ (List.mem_of_getElem? (i := 21) rfl)) (jWr_1 _ (List.mem_of_getElem? (i := 22) rfl)) (jWr_19 _ (List.mem_of_getElem? (i := 22) rfl))) rfl rfl rfl (by decide +kernel) ⟨by rw [← hR]; exact Nat.le_of_ble_eq_true rfl, by rw [← hR]; exact Nat.le_of_ble_eq_true rfl⟩) ⟨fun a U g mk q => by obtain ⟨q0, q1, q2, qK, q10, q11, q12, q13⟩ := q; exact ⟨q0, q1, q2, jG.calling g mk a qK, q10, q11, q12, q13⟩, hh_43.recv (C := RX4) (T := TX4) (N := 12) hB6 rfl (by decide) hg_r0 hK, fun U hU hW => ⟨rfl, hU, hh_43.2.1, hG.step hW hU hh_43.1, hg_r0, hg_rb, (hh_43.2.2.1.sub (L1 := [(r0, 6, 9, .ref rb), (r0, 6, 10, .int pe), (r0, 6, 11, .int z_41)]) [1, 2, 0] rfl), by first | omega | (refine ⟨?_, ?_, ?_, ?_, ?_⟩ <;> (first | omega | rfl | assumption | decide | exact Or.inl rfl | exact Or.inr rfl | (simp only; omega)))⟩⟩ rfl rfl hl.1 rfl (lv_room (Nat.le_of_ble_eq_true rfl)) dX4_number_136 ⟨Nat.zero_le _, Nat.zero_le _⟩) hh_43.1 (fun q _ h => h) (fun q h => h) (fun r_53 u_52 t_52 H_52 locs_52 ht_52 hvm_52 hr_53 hb_52 hz_52 hk_52 hS_52 => ?_)
                rw [ht_52] at hb_52
                obtain ⟨hb_521, hb_522, hb_523, hb_524, hb_525⟩ := hb_52
                have hh_52 : jSt (dC, dI) B base G0 G0 EX4_number s.heap 0 0 [(r0, 6, 11, .int z_41), (r0, 6, 9, .ref rb), (r0, 6, 10, .int pe)] [] [] H_52 locs_52 := ((hh_43.call hb_521 hb_522 hb_523 hb_524 hS_52 rfl (L1 := [(r0, 6, 11, .int z_41), (r0, 6, 9, .ref rb), (r0, 6, 10, .int pe)]) [0, 1, 2] rfl rfl (M1 := []) [] rfl rfl (I1 := []) [] rfl rfl).more hb_525)
                clear hh_43 ht_52 hvm_52 hz_52 hk_52 hS_52 hb_521 hb_522 hb_523 hb_524 hb_525
                obtain ⟨hr_53_0, hr_53_1, hr_53_2⟩ := hr_53
                refine lv_bipush (v := 45) hx hb dX4_number_139 (by decide) ?_
                refine lv_icmp_ne (tgt := 154) hx hb dX4_number_141 (by decide) (fun c_54 => ?_) (fun c_54 => ?_)
                · skip
                  have c_54' : r_53.toInt ≠ 45 := jb_ne (rfl) ((by decide)) c_54
                  try clear hr_53_2
                  exact C154 z_41 _ _ hh_52 (by first | omega | (refine ⟨?_, ?_, ?_⟩ <;> (first | omega | rfl | assumption | decide | exact Or.inl rfl | exact Or.inr rfl | (simp only; omega)))) _ (lv_sub hl [1, 2, 3, 4, 0] rfl)
                · skip
                  have c_54' : r_53.toInt = 45 := jb_ne_n (rfl) ((by decide)) c_54
                  first | (have hr_53_2q := hr_53_2.resolve_left (by omega); clear hr_53_2) | (have hr_53_2q := hr_53_2.resolve_right (by omega); clear hr_53_2) | try clear hr_53_2
                  refine lv_aload_n hx hb dX4_number_144 rfl (lv_at hl 1 rfl) ?_
                  refine lv_dup hx hb dX4_number_145 rfl ?_
                  refine j7_read hx hb hown hK (C := RX4) (T := TX4) (N := 12) rfl hly_6_11 hlk_47 (hh_52.at 0 rfl) dX4_number_146 ?_
                  refine lv_iconst (v := 1) hx hb dX4_number_149 (by decide) ?_
                  refine lv_iadd hx hb dX4_number_150 ?_
                  refine lv_topi (fun z_55 ez_55 => ?_)
                  have hz_55 : z_55.toInt = z_41.toInt + 1 := by rw [ez_55]; exact jb_iadd2 (rfl) ((by decide)) (by omega)
                  refine j7_put hx hb hown hK hh_52 hB hAp hB6 (C := RX4) (T := TX4) (N := 12) rfl (by decide) hg_r0 (i := 11) (by decide) hly_6_11 rfl hlk_47 rfl (ty := .int) (v := .int z_55) (by decide +kernel) rfl rfl (⟨_, rfl, by omega, by omega⟩) rfl (L1 := [(r0, 6, 9, .ref rb), (r0, 6, 10, .int pe)]) [1, 2] rfl rfl rfl dX4_number_151 (fun H_56 locs_56 hh_56 => ?_)
                  clear hh_52
                  exact C154 z_55 _ _ hh_56 (by first | omega | (refine ⟨?_, ?_, ?_⟩ <;> (first | omega | rfl | assumption | decide | exact Or.inl rfl | exact Or.inr rfl | (simp only; omega)))) _ (lv_sub hl [1, 2, 3, 4, 0] rfl)
            · skip
              have c_40' : r_13.toInt ≠ 101 := jb_eq_n (rfl) ((by decide)) c_40
              try clear hr_13_2
              refine lv_aload_n hx hb dX4_number_104 rfl (lv_at hl 0 rfl) ?_
              refine va_calli (A0 := jA base) (H0 := s.heap) (va_runV (As := []) (rest := []) ⟨hx, hb, hml, hown, hts⟩ (uX4_peek l dC dI ca base B hB hAp hB6 hB100 G0 H_12 r0 rb n_rb pe wt_11) (cwV 0 hts (jgV (jWr_19 _ (List.mem_of_getElem? (i := 19) rfl)) (jWr_19 _ (List.mem_of_getElem? (i := 20) rfl)) (jWr_19 _ (List.mem_of_getElem? (i := 21) rfl)) (jWr_1 _ (List.mem_of_getElem? (i := 22) rfl)) (jWr_19 _ (List.mem_of_getElem? (i := 22) rfl))) rfl rfl rfl (by decide +kernel) ⟨by rw [← hR]; exact Nat.le_of_ble_eq_true rfl, by rw [← hR]; exact Nat.le_of_ble_eq_true rfl⟩) ⟨fun a U g mk q => by obtain ⟨q0, q1, q2, qK, q10, q11, q12, q13⟩ := q; exact ⟨q0, q1, q2, jG.calling g mk a qK, q10, q11, q12, q13⟩, hh_12.recv (C := RX4) (T := TX4) (N := 12) hB6 rfl (by decide) hg_r0 hK, fun U hU hW => ⟨rfl, hU, hh_12.2.1, hG.step hW hU hh_12.1, hg_r0, hg_rb, (hh_12.2.2.1.sub (L1 := [(r0, 6, 9, .ref rb), (r0, 6, 10, .int pe), (r0, 6, 11, .int wt_11)]) [1, 2, 0] rfl), by first | omega | (refine ⟨?_, ?_, ?_, ?_, ?_⟩ <;> (first | omega | rfl | assumption | decide | exact Or.inl rfl | exact Or.inr rfl | (simp only; omega)))⟩⟩ rfl rfl hl.1 rfl (lv_room (Nat.le_of_ble_eq_true rfl)) dX4_number_105 ⟨Nat.zero_le _, Nat.zero_le _⟩) hh_12.1 (fun q _ h => h) (fun q h => h) (fun r_58 u_57 t_57 H_57 locs_57 ht_57 hvm_57 hr_58 hb_57 hz_57 hk_57 hS_57 => ?_)
              rw [ht_57] at hb_57
              obtain ⟨hb_571, hb_572, hb_573, hb_574, hb_575⟩ := hb_57
              have hh_57 : jSt (dC, dI) B base G0 G0 EX4_number s.heap 0 0 [(r0, 6, 11, .int wt_11), (r0, 6, 9, .ref rb), (r0, 6, 10, .int pe)] [] [] H_57 locs_57 := ((hh_12.call hb_571 hb_572 hb_573 hb_574 hS_57 rfl (L1 := [(r0, 6, 11, .int wt_11), (r0, 6, 9, .ref rb), (r0, 6, 10, .int pe)]) [0, 1, 2] rfl rfl (M1 := []) [] rfl rfl (I1 := []) [] rfl rfl).more hb_575)
              clear hh_12 ht_57 hvm_57 hz_57 hk_57 hS_57 hb_571 hb_572 hb_573 hb_574 hb_575
              obtain ⟨hr_58_0, hr_58_1, hr_58_2⟩ := hr_58
              refine lv_bipush (v := 69) hx hb dX4_number_108 (by decide) ?_
              refine lv_icmp_ne (tgt := 163) hx hb dX4_number_110 (by decide) (fun c_59 => ?_) (fun c_59 => ?_)
              · skip
                have c_59' : r_58.toInt ≠ 69 := jb_ne (rfl) ((by decide)) c_59
                try clear hr_58_2
                exact C163 v4_11 wt_11 _ _ hh_57 (hb_v4_11) (by first | omega | (refine ⟨?_, ?_, ?_⟩ <;> (first | omega | rfl | assumption | decide | exact Or.inl rfl | exact Or.inr rfl | (simp only; omega)))) _ (lv_sub hl [0, 1, 2, 3, 4] rfl)
              · skip
                have c_59' : r_58.toInt = 69 := jb_ne_n (rfl) ((by decide)) c_59
                first | (have hr_58_2q := hr_58_2.resolve_left (by omega); clear hr_58_2) | (have hr_58_2q := hr_58_2.resolve_right (by omega); clear hr_58_2) | try clear hr_58_2
                refine lv_iconst (v := 0) hx hb dX4_number_113 (by decide) ?_
                refine lv_istore (lv' := [(4, .int 0), (0, .ref r0), (1, .int 0), (2, .int wt_4), (3, .int r_6)]) hx hb dX4_number_114 hl (by decide) rfl (fun ls hl => ?_)
                refine lv_aload_n hx hb dX4_number_116 rfl (lv_at hl 1 rfl) ?_
                refine lv_dup hx hb dX4_number_117 rfl ?_
                refine j7_read hx hb hown hK (C := RX4) (T := TX4) (N := 12) rfl hly_6_11 hlk_47 (hh_57.at 0 rfl) dX4_number_118 ?_
                refine lv_iconst (v := 1) hx hb dX4_number_121 (by decide) ?_
                refine lv_iadd hx hb dX4_number_122 ?_
                refine lv_topi (fun z_60 ez_60 => ?_)
                have hz_60 : z_60.toInt = wt_11.toInt + 1 := by rw [ez_60]; exact jb_iadd2 (rfl) ((by decide)) (by omega)
                refine j7_put hx hb hown hK hh_57 hB hAp hB6 (C := RX4) (T := TX4) (N := 12) rfl (by decide) hg_r0 (i := 11) (by decide) hly_6_11 rfl hlk_47 rfl (ty := .int) (v := .int z_60) (by decide +kernel) rfl rfl (⟨_, rfl, by omega, by omega⟩) rfl (L1 := [(r0, 6, 9, .ref rb), (r0, 6, 10, .int pe)]) [1, 2] rfl rfl rfl dX4_number_123 (fun H_61 locs_61 hh_61 => ?_)
                clear hh_57
                refine lv_aload_n hx hb dX4_number_126 rfl (lv_at hl 1 rfl) ?_
                refine va_calli (A0 := jA base) (H0 := s.heap) (va_runV (As := []) (rest := []) ⟨hx, hb, hml, hown, hts⟩ (uX4_peek l dC dI ca base B hB hAp hB6 hB100 G0 H_61 r0 rb n_rb pe z_60) (cwV 0 hts (jgV (jWr_19 _ (List.mem_of_getElem? (i := 19) rfl)) (jWr_19 _ (List.mem_of_getElem? (i := 20) rfl)) (jWr_19 _ (List.mem_of_getElem? (i := 21) rfl)) (jWr_1 _ (List.mem_of_getElem? (i := 22) rfl)) (jWr_19 _ (List.mem_of_getElem? (i := 22) rfl))) rfl rfl rfl (by decide +kernel) ⟨by rw [← hR]; exact Nat.le_of_ble_eq_true rfl, by rw [← hR]; exact Nat.le_of_ble_eq_true rfl⟩) ⟨fun a U g mk q => by obtain ⟨q0, q1, q2, qK, q10, q11, q12, q13⟩ := q; exact ⟨q0, q1, q2, jG.calling g mk a qK, q10, q11, q12, q13⟩, hh_61.recv (C := RX4) (T := TX4) (N := 12) hB6 rfl (by decide) hg_r0 hK, fun U hU hW => ⟨rfl, hU, hh_61.2.1, hG.step hW hU hh_61.1, hg_r0, hg_rb, (hh_61.2.2.1.sub (L1 := [(r0, 6, 9, .ref rb), (r0, 6, 10, .int pe), (r0, 6, 11, .int z_60)]) [1, 2, 0] rfl), by first | omega | (refine ⟨?_, ?_, ?_, ?_, ?_⟩ <;> (first | omega | rfl | assumption | decide | exact Or.inl rfl | exact Or.inr rfl | (simp only; omega)))⟩⟩ rfl rfl hl.1 rfl (lv_room (Nat.le_of_ble_eq_true rfl)) dX4_number_127 ⟨Nat.zero_le _, Nat.zero_le _⟩) hh_61.1 (fun q _ h => h) (fun q h => h) (fun r_63 u_62 t_62 H_62 locs_62 ht_62 hvm_62 hr_63 hb_62 hz_62 hk_62 hS_62 => ?_)
                rw [ht_62] at hb_62
                obtain ⟨hb_621, hb_622, hb_623, hb_624, hb_625⟩ := hb_62
                have hh_62 : jSt (dC, dI) B base G0 G0 EX4_number s.heap 0 0 [(r0, 6, 11, .int z_60), (r0, 6, 9, .ref rb), (r0, 6, 10, .int pe)] [] [] H_62 locs_62 := ((hh_61.call hb_621 hb_622 hb_623 hb_624 hS_62 rfl (L1 := [(r0, 6, 11, .int z_60), (r0, 6, 9, .ref rb), (r0, 6, 10, .int pe)]) [0, 1, 2] rfl rfl (M1 := []) [] rfl rfl (I1 := []) [] rfl rfl).more hb_625)
                clear hh_61 ht_62 hvm_62 hz_62 hk_62 hS_62 hb_621 hb_622 hb_623 hb_624 hb_625
                obtain ⟨hr_63_0, hr_63_1, hr_63_2⟩ := hr_63
                refine lv_bipush (v := 43) hx hb dX4_number_130 (by decide) ?_
                have C154 : ∀ (wt_64 : Int32) (H_64 : Heap) (locs_64 : List Loc), jSt (dC, dI) B base G0 G0 EX4_number s.heap 0 0 [(r0, 6, 11, .int wt_64), (r0, 6, 9, .ref rb), (r0, 6, 10, .int pe)] [] [] H_64 locs_64 → (pt.toInt ≤ wt_64.toInt ∧ wt_64.toInt ≤ pe.toInt ∧ z_60.toInt ≤ wt_64.toInt) → ∀ ls : Array Slot, lv_has ls 8 [(0, .ref r0), (1, .int 0), (2, .int wt_4), (3, .int r_6), (4, .int 0)] → W p l e R s m ([.ref r0] : List Value).toArray below meth c H_64 locs_64 0 0 Q (F0 m 154 ls []) := by
                  intro wt_64 H_64 locs_64 hh_64  hi_64 ls hl
                  obtain ⟨hi_64_0, hi_64_1, hi_64_2⟩ := hi_64
                  try clear hr_63_2
                  refine lv_aload_n hx hb dX4_number_154 rfl (lv_at hl 0 rfl) ?_
                  refine va_calli (A0 := jA base) (H0 := s.heap) (va_runV (As := []) (rest := []) ⟨hx, hb, hml, hown, hts⟩ (uX4_digits l dC dI ca base B hB hAp hB6 hB100 G0 H_64 r0 rb n_rb pe wt_64) (cwV 0 hts (jgV (jWr_23 _ (List.mem_of_getElem? (i := 1) rfl)) (jWr_23 _ (List.mem_of_getElem? (i := 2) rfl)) (jWr_23 _ (List.mem_of_getElem? (i := 3) rfl)) (jWr_1 _ (List.mem_of_getElem? (i := 22) rfl)) (jWr_23 _ (List.mem_of_getElem? (i := 4) rfl))) rfl rfl rfl (by decide +kernel) ⟨by rw [← hR]; exact Nat.le_of_ble_eq_true rfl, by rw [← hR]; exact Nat.le_of_ble_eq_true rfl⟩) ⟨fun a U g mk q => by obtain ⟨q0, q1, q2, qK, q10, q11, q12, q13⟩ := q; exact ⟨q0, q1, q2, jG.calling g mk a qK, q10, q11, q12, q13⟩, hh_64.recv (C := RX4) (T := TX4) (N := 12) hB6 rfl (by decide) hg_r0 hK, fun U hU hW => ⟨rfl, hU, hh_64.2.1, hG.step hW hU hh_64.1, hg_r0, hg_rb, (hh_64.2.2.1.sub (L1 := [(r0, 6, 9, .ref rb), (r0, 6, 10, .int pe), (r0, 6, 11, .int wt_64)]) [1, 2, 0] rfl), by first | omega | (refine ⟨?_, ?_, ?_, ?_, ?_, ?_⟩ <;> (first | omega | rfl | assumption | decide | exact Or.inl rfl | exact Or.inr rfl | (simp only; omega)))⟩⟩ rfl rfl hl.1 rfl (lv_room (Nat.le_of_ble_eq_true rfl)) dX4_number_155 ⟨Nat.zero_le _, Nat.zero_le _⟩) hh_64.1 (fun q _ h => h) (fun q h => h) (fun r_66 u_65 t_65 H_65 locs_65 ht_65 hvm_65 hr_66 hb_65 hz_65 hk_65 hS_65 => ?_)
                  obtain ⟨qt_65, rfl⟩ : ∃ z, z = u_65 := ⟨_, rfl⟩
                  rw [ht_65] at hb_65
                  obtain ⟨hb_651, hb_652, hb_653, hb_654, hb_655⟩ := hb_65
                  have hh_65 : jSt (dC, dI) B base G0 G0 EX4_number s.heap 0 0 [(r0, 6, 11, .int qt_65), (r0, 6, 9, .ref rb), (r0, 6, 10, .int pe)] [] [] H_65 locs_65 := ((hh_64.call hb_651 hb_652 hb_653 hb_654 hS_65 rfl (L1 := [(r0, 6, 9, .ref rb), (r0, 6, 10, .int pe)]) [1, 2] rfl rfl (M1 := []) [] rfl rfl (I1 := []) [] rfl rfl).more hb_655)
                  clear hh_64 ht_65 hvm_65 hz_65 hk_65 hS_65 hb_651 hb_652 hb_653 hb_654 hb_655
                  obtain ⟨hr_66_0, hr_66_1, hr_66_2⟩ := hr_66
                  refine lv_if_ne (tgt := 163) hx hb dX4_number_158 (by decide) (fun c_67 => ?_) (fun c_67 => ?_)
                  · skip
                    have c_67' : r_66.toInt ≠ 0 := jb_ne (rfl) ((by decide)) c_67
                    exact C163 0 qt_65 _ _ hh_65 (Or.inl rfl) (by first | omega | (refine ⟨?_, ?_, ?_⟩ <;> (first | omega | rfl | assumption | decide | exact Or.inl rfl | exact Or.inr rfl | (simp only; omega)))) _ (lv_sub hl [0, 1, 2, 3, 4] rfl)
                  · skip
                    have c_67' : r_66.toInt = 0 := jb_ne_n (rfl) ((by decide)) c_67
                    refine lv_iconst (v := (-1)) hx hb dX4_number_161 (by decide) ?_
                    rw [hQ]
                    exact W.iret (v := (-1)) hx hb hr (fun t ht hW => ⟨⟨(-1), qt_65, rfl, by first | omega | (refine ⟨?_, ?_, ?_, ?_⟩ <;> (first | omega | rfl | assumption | decide | exact Or.inl rfl | exact Or.inr rfl | (simp only; omega))), hh_65.rt (M1 := [(r0, 6, 11, .int qt_65)]) [0] rfl ht⟩, by rw [ht]; try exact hh_65.1.1, fun q h9 hq => by rw [ht]; try exact hh_65.1.2.1 q h9 hq⟩) hh_65.1.2.2 dX4_number_162
                refine lv_icmp_eq (tgt := 144) hx hb dX4_number_132 (by decide) (fun c_68 => ?_) (fun c_68 => ?_)
                · skip
                  have c_68' : r_63.toInt = 43 := jb_eq (rfl) ((by decide)) c_68
                  first | (have hr_63_2q := hr_63_2.resolve_left (by omega); clear hr_63_2) | (have hr_63_2q := hr_63_2.resolve_right (by omega); clear hr_63_2) | try clear hr_63_2
                  refine lv_aload_n hx hb dX4_number_144 rfl (lv_at hl 1 rfl) ?_
                  refine lv_dup hx hb dX4_number_145 rfl ?_
                  refine j7_read hx hb hown hK (C := RX4) (T := TX4) (N := 12) rfl hly_6_11 hlk_47 (hh_62.at 0 rfl) dX4_number_146 ?_
                  refine lv_iconst (v := 1) hx hb dX4_number_149 (by decide) ?_
                  refine lv_iadd hx hb dX4_number_150 ?_
                  refine lv_topi (fun z_69 ez_69 => ?_)
                  have hz_69 : z_69.toInt = z_60.toInt + 1 := by rw [ez_69]; exact jb_iadd2 (rfl) ((by decide)) (by omega)
                  refine j7_put hx hb hown hK hh_62 hB hAp hB6 (C := RX4) (T := TX4) (N := 12) rfl (by decide) hg_r0 (i := 11) (by decide) hly_6_11 rfl hlk_47 rfl (ty := .int) (v := .int z_69) (by decide +kernel) rfl rfl (⟨_, rfl, by omega, by omega⟩) rfl (L1 := [(r0, 6, 9, .ref rb), (r0, 6, 10, .int pe)]) [1, 2] rfl rfl rfl dX4_number_151 (fun H_70 locs_70 hh_70 => ?_)
                  clear hh_62
                  exact C154 z_69 _ _ hh_70 (by first | omega | (refine ⟨?_, ?_, ?_⟩ <;> (first | omega | rfl | assumption | decide | exact Or.inl rfl | exact Or.inr rfl | (simp only; omega)))) _ (lv_sub hl [1, 2, 3, 4, 0] rfl)
                · skip
                  have c_68' : r_63.toInt ≠ 43 := jb_eq_n (rfl) ((by decide)) c_68
                  try clear hr_63_2
                  refine lv_aload_n hx hb dX4_number_135 rfl (lv_at hl 1 rfl) ?_
                  refine va_calli (A0 := jA base) (H0 := s.heap) (va_runV (As := []) (rest := []) ⟨hx, hb, hml, hown, hts⟩ (uX4_peek l dC dI ca base B hB hAp hB6 hB100 G0 H_62 r0 rb n_rb pe z_60) (cwV 0 hts (jgV (jWr_19 _ (List.mem_of_getElem? (i := 19) rfl)) (jWr_19 _ (List.mem_of_getElem? (i := 20) rfl)) (jWr_19 _ (List.mem_of_getElem? (i := 21) rfl)) (jWr_1 _ (List.mem_of_getElem? (i := 22) rfl)) (jWr_19 _ (List.mem_of_getElem? (i := 22) rfl))) rfl rfl rfl (by decide +kernel) ⟨by rw [← hR]; exact Nat.le_of_ble_eq_true rfl, by rw [← hR]; exact Nat.le_of_ble_eq_true rfl⟩) ⟨fun a U g mk q => by obtain ⟨q0, q1, q2, qK, q10, q11, q12, q13⟩ := q; exact ⟨q0, q1, q2, jG.calling g mk a qK, q10, q11, q12, q13⟩, hh_62.recv (C := RX4) (T := TX4) (N := 12) hB6 rfl (by decide) hg_r0 hK, fun U hU hW => ⟨rfl, hU, hh_62.2.1, hG.step hW hU hh_62.1, hg_r0, hg_rb, (hh_62.2.2.1.sub (L1 := [(r0, 6, 9, .ref rb), (r0, 6, 10, .int pe), (r0, 6, 11, .int z_60)]) [1, 2, 0] rfl), by first | omega | (refine ⟨?_, ?_, ?_, ?_, ?_⟩ <;> (first | omega | rfl | assumption | decide | exact Or.inl rfl | exact Or.inr rfl | (simp only; omega)))⟩⟩ rfl rfl hl.1 rfl (lv_room (Nat.le_of_ble_eq_true rfl)) dX4_number_136 ⟨Nat.zero_le _, Nat.zero_le _⟩) hh_62.1 (fun q _ h => h) (fun q h => h) (fun r_72 u_71 t_71 H_71 locs_71 ht_71 hvm_71 hr_72 hb_71 hz_71 hk_71 hS_71 => ?_)
                  rw [ht_71] at hb_71
                  obtain ⟨hb_711, hb_712, hb_713, hb_714, hb_715⟩ := hb_71
                  have hh_71 : jSt (dC, dI) B base G0 G0 EX4_number s.heap 0 0 [(r0, 6, 11, .int z_60), (r0, 6, 9, .ref rb), (r0, 6, 10, .int pe)] [] [] H_71 locs_71 := ((hh_62.call hb_711 hb_712 hb_713 hb_714 hS_71 rfl (L1 := [(r0, 6, 11, .int z_60), (r0, 6, 9, .ref rb), (r0, 6, 10, .int pe)]) [0, 1, 2] rfl rfl (M1 := []) [] rfl rfl (I1 := []) [] rfl rfl).more hb_715)
                  clear hh_62 ht_71 hvm_71 hz_71 hk_71 hS_71 hb_711 hb_712 hb_713 hb_714 hb_715
                  obtain ⟨hr_72_0, hr_72_1, hr_72_2⟩ := hr_72
                  refine lv_bipush (v := 45) hx hb dX4_number_139 (by decide) ?_
                  refine lv_icmp_ne (tgt := 154) hx hb dX4_number_141 (by decide) (fun c_73 => ?_) (fun c_73 => ?_)
                  · skip
                    have c_73' : r_72.toInt ≠ 45 := jb_ne (rfl) ((by decide)) c_73
                    try clear hr_72_2
                    exact C154 z_60 _ _ hh_71 (by first | omega | (refine ⟨?_, ?_, ?_⟩ <;> (first | omega | rfl | assumption | decide | exact Or.inl rfl | exact Or.inr rfl | (simp only; omega)))) _ (lv_sub hl [1, 2, 3, 4, 0] rfl)
                  · skip
                    have c_73' : r_72.toInt = 45 := jb_ne_n (rfl) ((by decide)) c_73
                    first | (have hr_72_2q := hr_72_2.resolve_left (by omega); clear hr_72_2) | (have hr_72_2q := hr_72_2.resolve_right (by omega); clear hr_72_2) | try clear hr_72_2
                    refine lv_aload_n hx hb dX4_number_144 rfl (lv_at hl 1 rfl) ?_
                    refine lv_dup hx hb dX4_number_145 rfl ?_
                    refine j7_read hx hb hown hK (C := RX4) (T := TX4) (N := 12) rfl hly_6_11 hlk_47 (hh_71.at 0 rfl) dX4_number_146 ?_
                    refine lv_iconst (v := 1) hx hb dX4_number_149 (by decide) ?_
                    refine lv_iadd hx hb dX4_number_150 ?_
                    refine lv_topi (fun z_74 ez_74 => ?_)
                    have hz_74 : z_74.toInt = z_60.toInt + 1 := by rw [ez_74]; exact jb_iadd2 (rfl) ((by decide)) (by omega)
                    refine j7_put hx hb hown hK hh_71 hB hAp hB6 (C := RX4) (T := TX4) (N := 12) rfl (by decide) hg_r0 (i := 11) (by decide) hly_6_11 rfl hlk_47 rfl (ty := .int) (v := .int z_74) (by decide +kernel) rfl rfl (⟨_, rfl, by omega, by omega⟩) rfl (L1 := [(r0, 6, 9, .ref rb), (r0, 6, 10, .int pe)]) [1, 2] rfl rfl rfl dX4_number_151 (fun H_75 locs_75 hh_75 => ?_)
                    clear hh_71
                    exact C154 z_74 _ _ hh_75 (by first | omega | (refine ⟨?_, ?_, ?_⟩ <;> (first | omega | rfl | assumption | decide | exact Or.inl rfl | exact Or.inr rfl | (simp only; omega)))) _ (lv_sub hl [1, 2, 3, 4, 0] rfl)
          refine lv_icmp_ne (tgt := 95) hx hb dX4_number_70 (by decide) (fun c_76 => ?_) (fun c_76 => ?_)
          · skip
            have c_76' : r_10.toInt ≠ 46 := jb_ne (rfl) ((by decide)) c_76
            try clear hr_10_2
            exact C95 1 qt_5 _ _ hh_9 (Or.inr rfl) (by first | omega | (refine ⟨?_, ?_, ?_⟩ <;> (first | omega | rfl | assumption | decide | exact Or.inl rfl | exact Or.inr rfl | (simp only; omega)))) _ (lv_sub hl [1, 2, 3, 4, 0] rfl)
          · skip
            have c_76' : r_10.toInt = 46 := jb_ne_n (rfl) ((by decide)) c_76
            first | (have hr_10_2q := hr_10_2.resolve_left (by omega); clear hr_10_2) | (have hr_10_2q := hr_10_2.resolve_right (by omega); clear hr_10_2) | try clear hr_10_2
            refine lv_iconst (v := 0) hx hb dX4_number_73 (by decide) ?_
            refine lv_istore (lv' := [(4, .int 0), (0, .ref r0), (1, .int 0), (2, .int wt_4), (3, .int r_6)]) hx hb dX4_number_74 hl (by decide) rfl (fun ls hl => ?_)
            refine lv_aload_n hx hb dX4_number_76 rfl (lv_at hl 1 rfl) ?_
            refine lv_dup hx hb dX4_number_77 rfl ?_
            refine j7_read hx hb hown hK (C := RX4) (T := TX4) (N := 12) rfl hly_6_11 hlk_47 (hh_9.at 0 rfl) dX4_number_78 ?_
            refine lv_iconst (v := 1) hx hb dX4_number_81 (by decide) ?_
            refine lv_iadd hx hb dX4_number_82 ?_
            refine lv_topi (fun z_77 ez_77 => ?_)
            have hz_77 : z_77.toInt = qt_5.toInt + 1 := by rw [ez_77]; exact jb_iadd2 (rfl) ((by decide)) (by omega)
            refine j7_put hx hb hown hK hh_9 hB hAp hB6 (C := RX4) (T := TX4) (N := 12) rfl (by decide) hg_r0 (i := 11) (by decide) hly_6_11 rfl hlk_47 rfl (ty := .int) (v := .int z_77) (by decide +kernel) rfl rfl (⟨_, rfl, by omega, by omega⟩) rfl (L1 := [(r0, 6, 9, .ref rb), (r0, 6, 10, .int pe)]) [1, 2] rfl rfl rfl dX4_number_83 (fun H_78 locs_78 hh_78 => ?_)
            clear hh_9
            refine lv_aload_n hx hb dX4_number_86 rfl (lv_at hl 1 rfl) ?_
            refine va_calli (A0 := jA base) (H0 := s.heap) (va_runV (As := []) (rest := []) ⟨hx, hb, hml, hown, hts⟩ (uX4_digits l dC dI ca base B hB hAp hB6 hB100 G0 H_78 r0 rb n_rb pe z_77) (cwV 0 hts (jgV (jWr_23 _ (List.mem_of_getElem? (i := 1) rfl)) (jWr_23 _ (List.mem_of_getElem? (i := 2) rfl)) (jWr_23 _ (List.mem_of_getElem? (i := 3) rfl)) (jWr_1 _ (List.mem_of_getElem? (i := 22) rfl)) (jWr_23 _ (List.mem_of_getElem? (i := 4) rfl))) rfl rfl rfl (by decide +kernel) ⟨by rw [← hR]; exact Nat.le_of_ble_eq_true rfl, by rw [← hR]; exact Nat.le_of_ble_eq_true rfl⟩) ⟨fun a U g mk q => by obtain ⟨q0, q1, q2, qK, q10, q11, q12, q13⟩ := q; exact ⟨q0, q1, q2, jG.calling g mk a qK, q10, q11, q12, q13⟩, hh_78.recv (C := RX4) (T := TX4) (N := 12) hB6 rfl (by decide) hg_r0 hK, fun U hU hW => ⟨rfl, hU, hh_78.2.1, hG.step hW hU hh_78.1, hg_r0, hg_rb, (hh_78.2.2.1.sub (L1 := [(r0, 6, 9, .ref rb), (r0, 6, 10, .int pe), (r0, 6, 11, .int z_77)]) [1, 2, 0] rfl), by first | omega | (refine ⟨?_, ?_, ?_, ?_, ?_, ?_⟩ <;> (first | omega | rfl | assumption | decide | exact Or.inl rfl | exact Or.inr rfl | (simp only; omega)))⟩⟩ rfl rfl hl.1 rfl (lv_room (Nat.le_of_ble_eq_true rfl)) dX4_number_87 ⟨Nat.zero_le _, Nat.zero_le _⟩) hh_78.1 (fun q _ h => h) (fun q h => h) (fun r_80 u_79 t_79 H_79 locs_79 ht_79 hvm_79 hr_80 hb_79 hz_79 hk_79 hS_79 => ?_)
            obtain ⟨qt_79, rfl⟩ : ∃ z, z = u_79 := ⟨_, rfl⟩
            rw [ht_79] at hb_79
            obtain ⟨hb_791, hb_792, hb_793, hb_794, hb_795⟩ := hb_79
            have hh_79 : jSt (dC, dI) B base G0 G0 EX4_number s.heap 0 0 [(r0, 6, 11, .int qt_79), (r0, 6, 9, .ref rb), (r0, 6, 10, .int pe)] [] [] H_79 locs_79 := ((hh_78.call hb_791 hb_792 hb_793 hb_794 hS_79 rfl (L1 := [(r0, 6, 9, .ref rb), (r0, 6, 10, .int pe)]) [1, 2] rfl rfl (M1 := []) [] rfl rfl (I1 := []) [] rfl rfl).more hb_795)
            clear hh_78 ht_79 hvm_79 hz_79 hk_79 hS_79 hb_791 hb_792 hb_793 hb_794 hb_795
            obtain ⟨hr_80_0, hr_80_1, hr_80_2⟩ := hr_80
            refine lv_if_ne (tgt := 95) hx hb dX4_number_90 (by decide) (fun c_81 => ?_) (fun c_81 => ?_)
            · skip
              have c_81' : r_80.toInt ≠ 0 := jb_ne (rfl) ((by decide)) c_81
              exact C95 0 qt_79 _ _ hh_79 (Or.inl rfl) (by first | omega | (refine ⟨?_, ?_, ?_⟩ <;> (first | omega | rfl | assumption | decide | exact Or.inl rfl | exact Or.inr rfl | (simp only; omega)))) _ (lv_sub hl [1, 2, 3, 4, 0] rfl)
            · skip
              have c_81' : r_80.toInt = 0 := jb_ne_n (rfl) ((by decide)) c_81
              refine lv_iconst (v := (-1)) hx hb dX4_number_93 (by decide) ?_
              rw [hQ]
              exact W.iret (v := (-1)) hx hb hr (fun t ht hW => ⟨⟨(-1), qt_79, rfl, by first | omega | (refine ⟨?_, ?_, ?_, ?_⟩ <;> (first | omega | rfl | assumption | decide | exact Or.inl rfl | exact Or.inr rfl | (simp only; omega))), hh_79.rt (M1 := [(r0, 6, 11, .int qt_79)]) [0] rfl ht⟩, by rw [ht]; try exact hh_79.1.1, fun q h9 hq => by rw [ht]; try exact hh_79.1.2.1 q h9 hq⟩) hh_79.1.2.2 dX4_number_94
        refine lv_icmp_le (tgt := 61) hx hb dX4_number_45 (by decide) (fun c_82 => ?_) (fun c_82 => ?_)
        · skip
          have c_82' : r_6.toInt ≤ 1 := jb_le (rfl) ((by decide)) c_82
          exact C61  _ _ hh_5 (trivial) _ (lv_sub hl [2, 3, 1, 0] rfl)
        · skip
          have c_82' : r_6.toInt > 1 := jb_le_n (rfl) ((by decide)) c_82
          refine lv_aload_n hx hb dX4_number_48 rfl (lv_at hl 2 rfl) ?_
          refine j7_read hx hb hown hK (C := RX4) (T := TX4) (N := 12) rfl hly_6_9 hlk_33 (hh_5.at 1 rfl) dX4_number_49 ?_
          refine lv_iload_n hx hb dX4_number_52 rfl (lv_at hl 1 rfl) ?_
          refine j7_bald hx hb hK hh_5 hB100 0 rfl (by decide) hg_rb (x := wt_4.toInt) (rfl) (by omega) dX4_number_53 (fun z_83 (hz_83 : True) => ?_)
          refine lv_bipush (v := 48) hx hb dX4_number_54 (by decide) ?_
          refine lv_icmp_ne (tgt := 61) hx hb dX4_number_56 (by decide) (fun c_84 => ?_) (fun c_84 => ?_)
          · skip
            have c_84' : z_83.toInt ≠ 48 := jb_ne (rfl) ((by decide)) c_84
            exact C61  _ _ hh_5 (trivial) _ (lv_sub hl [2, 3, 1, 0] rfl)
          · skip
            have c_84' : z_83.toInt = 48 := jb_ne_n (rfl) ((by decide)) c_84
            refine lv_iconst (v := (-1)) hx hb dX4_number_59 (by decide) ?_
            rw [hQ]
            exact W.iret (v := (-1)) hx hb hr (fun t ht hW => ⟨⟨(-1), qt_5, rfl, by first | omega | (refine ⟨?_, ?_, ?_, ?_⟩ <;> (first | omega | rfl | assumption | decide | exact Or.inl rfl | exact Or.inr rfl | (simp only; omega))), hh_5.rt (M1 := [(r0, 6, 11, .int qt_5)]) [0] rfl ht⟩, by rw [ht]; try exact hh_5.1.1, fun q h9 hq => by rw [ht]; try exact hh_5.1.2.1 q h9 hq⟩) hh_5.1.2.2 dX4_number_60
    refine lv_if_eq (tgt := 29) hx hb dX4_number_16 (by decide) (fun c_85 => ?_) (fun c_85 => ?_)
    · skip
      exact C29 pt _ _ (hh_1.sub (L1 := [(r0, 6, 11, .int pt), (r0, 6, 9, .ref rb), (r0, 6, 10, .int pe)]) [2, 0, 1] rfl (M1 := []) [] rfl (I1 := []) [] rfl) (by first | omega | (refine ⟨?_, ?_⟩ <;> (first | omega | rfl | assumption | decide | exact Or.inl rfl | exact Or.inr rfl | (simp only; omega)))) _ (lv_sub hl [1, 0] rfl)
    · skip
      exact absurd c_85 (by decide)
  · skip
    have c_3' : r_2.toInt = 45 := jb_ne_n (rfl) ((by decide)) c_3
    first | (have hr_2_2q := hr_2_2.resolve_left (by omega); clear hr_2_2) | (have hr_2_2q := hr_2_2.resolve_right (by omega); clear hr_2_2) | try clear hr_2_2
    refine lv_iconst (v := 1) hx hb dX4_number_9 (by decide) ?_
    refine lv_goto (tgt := 14) hx hb dX4_number_10 (by decide) ?_
    refine lv_istore_n (lv' := [(1, .int 1), (0, .ref r0)]) hx hb dX4_number_14 rfl hl (by decide) rfl (fun ls hl => ?_)
    refine lv_iload_n hx hb dX4_number_15 rfl (lv_at hl 0 rfl) ?_
    have C29 : ∀ (wt_86 : Int32) (H_86 : Heap) (locs_86 : List Loc), jSt (dC, dI) B base G0 G0 EX4_number s.heap 0 0 [(r0, 6, 11, .int wt_86), (r0, 6, 9, .ref rb), (r0, 6, 10, .int pe)] [] [] H_86 locs_86 → (pt.toInt ≤ wt_86.toInt ∧ wt_86.toInt ≤ pe.toInt) → ∀ ls : Array Slot, lv_has ls 8 [(0, .ref r0), (1, .int 1)] → W p l e R s m ([.ref r0] : List Value).toArray below meth c H_86 locs_86 0 0 Q (F0 m 29 ls []) := by
      intro wt_86 H_86 locs_86 hh_86  hi_86 ls hl
      obtain ⟨hi_86_0, hi_86_1⟩ := hi_86
      refine lv_aload_n hx hb dX4_number_29 rfl (lv_at hl 0 rfl) ?_
      refine j7_read hx hb hown hK (C := RX4) (T := TX4) (N := 12) rfl hly_6_11 hlk_47 (hh_86.at 0 rfl) dX4_number_30 ?_
      refine lv_istore_n (lv' := [(2, .int wt_86), (0, .ref r0), (1, .int 1)]) hx hb dX4_number_33 rfl hl (by decide) rfl (fun ls hl => ?_)
      refine lv_aload_n hx hb dX4_number_34 rfl (lv_at hl 1 rfl) ?_
      refine va_calli (A0 := jA base) (H0 := s.heap) (va_runV (As := []) (rest := []) ⟨hx, hb, hml, hown, hts⟩ (uX4_digits l dC dI ca base B hB hAp hB6 hB100 G0 H_86 r0 rb n_rb pe wt_86) (cwV 0 hts (jgV (jWr_23 _ (List.mem_of_getElem? (i := 1) rfl)) (jWr_23 _ (List.mem_of_getElem? (i := 2) rfl)) (jWr_23 _ (List.mem_of_getElem? (i := 3) rfl)) (jWr_1 _ (List.mem_of_getElem? (i := 22) rfl)) (jWr_23 _ (List.mem_of_getElem? (i := 4) rfl))) rfl rfl rfl (by decide +kernel) ⟨by rw [← hR]; exact Nat.le_of_ble_eq_true rfl, by rw [← hR]; exact Nat.le_of_ble_eq_true rfl⟩) ⟨fun a U g mk q => by obtain ⟨q0, q1, q2, qK, q10, q11, q12, q13⟩ := q; exact ⟨q0, q1, q2, jG.calling g mk a qK, q10, q11, q12, q13⟩, hh_86.recv (C := RX4) (T := TX4) (N := 12) hB6 rfl (by decide) hg_r0 hK, fun U hU hW => ⟨rfl, hU, hh_86.2.1, hG.step hW hU hh_86.1, hg_r0, hg_rb, (hh_86.2.2.1.sub (L1 := [(r0, 6, 9, .ref rb), (r0, 6, 10, .int pe), (r0, 6, 11, .int wt_86)]) [1, 2, 0] rfl), by first | omega | (refine ⟨?_, ?_, ?_, ?_, ?_, ?_⟩ <;> (first | omega | rfl | assumption | decide | exact Or.inl rfl | exact Or.inr rfl | (simp only; omega)))⟩⟩ rfl rfl hl.1 rfl (lv_room (Nat.le_of_ble_eq_true rfl)) dX4_number_35 ⟨Nat.zero_le _, Nat.zero_le _⟩) hh_86.1 (fun q _ h => h) (fun q h => h) (fun r_88 u_87 t_87 H_87 locs_87 ht_87 hvm_87 hr_88 hb_87 hz_87 hk_87 hS_87 => ?_)
      obtain ⟨qt_87, rfl⟩ : ∃ z, z = u_87 := ⟨_, rfl⟩
      rw [ht_87] at hb_87
      obtain ⟨hb_871, hb_872, hb_873, hb_874, hb_875⟩ := hb_87
      have hh_87 : jSt (dC, dI) B base G0 G0 EX4_number s.heap 0 0 [(r0, 6, 11, .int qt_87), (r0, 6, 9, .ref rb), (r0, 6, 10, .int pe)] [] [] H_87 locs_87 := ((hh_86.call hb_871 hb_872 hb_873 hb_874 hS_87 rfl (L1 := [(r0, 6, 9, .ref rb), (r0, 6, 10, .int pe)]) [1, 2] rfl rfl (M1 := []) [] rfl rfl (I1 := []) [] rfl rfl).more hb_875)
      clear hh_86 ht_87 hvm_87 hz_87 hk_87 hS_87 hb_871 hb_872 hb_873 hb_874 hb_875
      obtain ⟨hr_88_0, hr_88_1, hr_88_2⟩ := hr_88
      refine lv_istore_n (lv' := [(3, .int r_88), (2, .int wt_86), (0, .ref r0), (1, .int 1)]) hx hb dX4_number_38 rfl hl (by decide) rfl (fun ls hl => ?_)
      refine lv_iload_n hx hb dX4_number_39 rfl (lv_at hl 0 rfl) ?_
      refine lv_if_eq (tgt := 59) hx hb dX4_number_40 (by decide) (fun c_89 => ?_) (fun c_89 => ?_)
      · skip
        have c_89' : r_88.toInt = 0 := jb_eq (rfl) ((by decide)) c_89
        refine lv_iconst (v := (-1)) hx hb dX4_number_59 (by decide) ?_
        rw [hQ]
        exact W.iret (v := (-1)) hx hb hr (fun t ht hW => ⟨⟨(-1), qt_87, rfl, by first | omega | (refine ⟨?_, ?_, ?_, ?_⟩ <;> (first | omega | rfl | assumption | decide | exact Or.inl rfl | exact Or.inr rfl | (simp only; omega))), hh_87.rt (M1 := [(r0, 6, 11, .int qt_87)]) [0] rfl ht⟩, by rw [ht]; try exact hh_87.1.1, fun q h9 hq => by rw [ht]; try exact hh_87.1.2.1 q h9 hq⟩) hh_87.1.2.2 dX4_number_60
      · skip
        have c_89' : r_88.toInt ≠ 0 := jb_eq_n (rfl) ((by decide)) c_89
        refine lv_iload_n hx hb dX4_number_43 rfl (lv_at hl 0 rfl) ?_
        refine lv_iconst (v := 1) hx hb dX4_number_44 (by decide) ?_
        have C61 : ∀ (H_90 : Heap) (locs_90 : List Loc), jSt (dC, dI) B base G0 G0 EX4_number s.heap 0 0 [(r0, 6, 11, .int qt_87), (r0, 6, 9, .ref rb), (r0, 6, 10, .int pe)] [] [] H_90 locs_90 → (True) → ∀ ls : Array Slot, lv_has ls 8 [(0, .ref r0), (1, .int 1), (2, .int wt_86), (3, .int r_88)] → W p l e R s m ([.ref r0] : List Value).toArray below meth c H_90 locs_90 0 0 Q (F0 m 61 ls []) := by
          intro  H_90 locs_90 hh_90  hi_90 ls hl
          refine lv_iconst (v := 1) hx hb dX4_number_61 (by decide) ?_
          refine lv_istore (lv' := [(4, .int 1), (0, .ref r0), (1, .int 1), (2, .int wt_86), (3, .int r_88)]) hx hb dX4_number_62 hl (by decide) rfl (fun ls hl => ?_)
          refine lv_aload_n hx hb dX4_number_64 rfl (lv_at hl 1 rfl) ?_
          refine va_calli (A0 := jA base) (H0 := s.heap) (va_runV (As := []) (rest := []) ⟨hx, hb, hml, hown, hts⟩ (uX4_peek l dC dI ca base B hB hAp hB6 hB100 G0 H_90 r0 rb n_rb pe qt_87) (cwV 0 hts (jgV (jWr_19 _ (List.mem_of_getElem? (i := 19) rfl)) (jWr_19 _ (List.mem_of_getElem? (i := 20) rfl)) (jWr_19 _ (List.mem_of_getElem? (i := 21) rfl)) (jWr_1 _ (List.mem_of_getElem? (i := 22) rfl)) (jWr_19 _ (List.mem_of_getElem? (i := 22) rfl))) rfl rfl rfl (by decide +kernel) ⟨by rw [← hR]; exact Nat.le_of_ble_eq_true rfl, by rw [← hR]; exact Nat.le_of_ble_eq_true rfl⟩) ⟨fun a U g mk q => by obtain ⟨q0, q1, q2, qK, q10, q11, q12, q13⟩ := q; exact ⟨q0, q1, q2, jG.calling g mk a qK, q10, q11, q12, q13⟩, hh_90.recv (C := RX4) (T := TX4) (N := 12) hB6 rfl (by decide) hg_r0 hK, fun U hU hW => ⟨rfl, hU, hh_90.2.1, hG.step hW hU hh_90.1, hg_r0, hg_rb, (hh_90.2.2.1.sub (L1 := [(r0, 6, 9, .ref rb), (r0, 6, 10, .int pe), (r0, 6, 11, .int qt_87)]) [1, 2, 0] rfl), by first | omega | (refine ⟨?_, ?_, ?_, ?_, ?_⟩ <;> (first | omega | rfl | assumption | decide | exact Or.inl rfl | exact Or.inr rfl | (simp only; omega)))⟩⟩ rfl rfl hl.1 rfl (lv_room (Nat.le_of_ble_eq_true rfl)) dX4_number_65 ⟨Nat.zero_le _, Nat.zero_le _⟩) hh_90.1 (fun q _ h => h) (fun q h => h) (fun r_92 u_91 t_91 H_91 locs_91 ht_91 hvm_91 hr_92 hb_91 hz_91 hk_91 hS_91 => ?_)
          rw [ht_91] at hb_91
          obtain ⟨hb_911, hb_912, hb_913, hb_914, hb_915⟩ := hb_91
          have hh_91 : jSt (dC, dI) B base G0 G0 EX4_number s.heap 0 0 [(r0, 6, 11, .int qt_87), (r0, 6, 9, .ref rb), (r0, 6, 10, .int pe)] [] [] H_91 locs_91 := ((hh_90.call hb_911 hb_912 hb_913 hb_914 hS_91 rfl (L1 := [(r0, 6, 11, .int qt_87), (r0, 6, 9, .ref rb), (r0, 6, 10, .int pe)]) [0, 1, 2] rfl rfl (M1 := []) [] rfl rfl (I1 := []) [] rfl rfl).more hb_915)
          clear hh_90 ht_91 hvm_91 hz_91 hk_91 hS_91 hb_911 hb_912 hb_913 hb_914 hb_915
          obtain ⟨hr_92_0, hr_92_1, hr_92_2⟩ := hr_92
          refine lv_bipush (v := 46) hx hb dX4_number_68 (by decide) ?_
          have C95 : ∀ (v4_93 : Int32) (wt_93 : Int32) (H_93 : Heap) (locs_93 : List Loc), jSt (dC, dI) B base G0 G0 EX4_number s.heap 0 0 [(r0, 6, 11, .int wt_93), (r0, 6, 9, .ref rb), (r0, 6, 10, .int pe)] [] [] H_93 locs_93 → (v4_93 = 0 ∨ v4_93 = 1) → (pt.toInt ≤ wt_93.toInt ∧ wt_93.toInt ≤ pe.toInt ∧ qt_87.toInt ≤ wt_93.toInt) → ∀ ls : Array Slot, lv_has ls 8 [(0, .ref r0), (1, .int 1), (2, .int wt_86), (3, .int r_88), (4, .int v4_93)] → W p l e R s m ([.ref r0] : List Value).toArray below meth c H_93 locs_93 0 0 Q (F0 m 95 ls []) := by
            intro v4_93 wt_93 H_93 locs_93 hh_93 hb_v4_93 hi_93 ls hl
            obtain ⟨hi_93_0, hi_93_1, hi_93_2⟩ := hi_93
            have hb_v4_93' := jb_01 hb_v4_93
            try clear hr_92_2
            refine lv_aload_n hx hb dX4_number_95 rfl (lv_at hl 0 rfl) ?_
            refine va_calli (A0 := jA base) (H0 := s.heap) (va_runV (As := []) (rest := []) ⟨hx, hb, hml, hown, hts⟩ (uX4_peek l dC dI ca base B hB hAp hB6 hB100 G0 H_93 r0 rb n_rb pe wt_93) (cwV 0 hts (jgV (jWr_19 _ (List.mem_of_getElem? (i := 19) rfl)) (jWr_19 _ (List.mem_of_getElem? (i := 20) rfl)) (jWr_19 _ (List.mem_of_getElem? (i := 21) rfl)) (jWr_1 _ (List.mem_of_getElem? (i := 22) rfl)) (jWr_19 _ (List.mem_of_getElem? (i := 22) rfl))) rfl rfl rfl (by decide +kernel) ⟨by rw [← hR]; exact Nat.le_of_ble_eq_true rfl, by rw [← hR]; exact Nat.le_of_ble_eq_true rfl⟩) ⟨fun a U g mk q => by obtain ⟨q0, q1, q2, qK, q10, q11, q12, q13⟩ := q; exact ⟨q0, q1, q2, jG.calling g mk a qK, q10, q11, q12, q13⟩, hh_93.recv (C := RX4) (T := TX4) (N := 12) hB6 rfl (by decide) hg_r0 hK, fun U hU hW => ⟨rfl, hU, hh_93.2.1, hG.step hW hU hh_93.1, hg_r0, hg_rb, (hh_93.2.2.1.sub (L1 := [(r0, 6, 9, .ref rb), (r0, 6, 10, .int pe), (r0, 6, 11, .int wt_93)]) [1, 2, 0] rfl), by first | omega | (refine ⟨?_, ?_, ?_, ?_, ?_⟩ <;> (first | omega | rfl | assumption | decide | exact Or.inl rfl | exact Or.inr rfl | (simp only; omega)))⟩⟩ rfl rfl hl.1 rfl (lv_room (Nat.le_of_ble_eq_true rfl)) dX4_number_96 ⟨Nat.zero_le _, Nat.zero_le _⟩) hh_93.1 (fun q _ h => h) (fun q h => h) (fun r_95 u_94 t_94 H_94 locs_94 ht_94 hvm_94 hr_95 hb_94 hz_94 hk_94 hS_94 => ?_)
            rw [ht_94] at hb_94
            obtain ⟨hb_941, hb_942, hb_943, hb_944, hb_945⟩ := hb_94
            have hh_94 : jSt (dC, dI) B base G0 G0 EX4_number s.heap 0 0 [(r0, 6, 11, .int wt_93), (r0, 6, 9, .ref rb), (r0, 6, 10, .int pe)] [] [] H_94 locs_94 := ((hh_93.call hb_941 hb_942 hb_943 hb_944 hS_94 rfl (L1 := [(r0, 6, 11, .int wt_93), (r0, 6, 9, .ref rb), (r0, 6, 10, .int pe)]) [0, 1, 2] rfl rfl (M1 := []) [] rfl rfl (I1 := []) [] rfl rfl).more hb_945)
            clear hh_93 ht_94 hvm_94 hz_94 hk_94 hS_94 hb_941 hb_942 hb_943 hb_944 hb_945
            obtain ⟨hr_95_0, hr_95_1, hr_95_2⟩ := hr_95
            refine lv_bipush (v := 101) hx hb dX4_number_99 (by decide) ?_
            have C163 : ∀ (v4_96 : Int32) (wt_96 : Int32) (H_96 : Heap) (locs_96 : List Loc), jSt (dC, dI) B base G0 G0 EX4_number s.heap 0 0 [(r0, 6, 11, .int wt_96), (r0, 6, 9, .ref rb), (r0, 6, 10, .int pe)] [] [] H_96 locs_96 → (v4_96 = 0 ∨ v4_96 = 1) → (pt.toInt ≤ wt_96.toInt ∧ wt_96.toInt ≤ pe.toInt ∧ wt_93.toInt ≤ wt_96.toInt) → ∀ ls : Array Slot, lv_has ls 8 [(0, .ref r0), (1, .int 1), (2, .int wt_86), (3, .int r_88), (4, .int v4_96)] → W p l e R s m ([.ref r0] : List Value).toArray below meth c H_96 locs_96 0 0 Q (F0 m 163 ls []) := by
              intro v4_96 wt_96 H_96 locs_96 hh_96 hb_v4_96 hi_96 ls hl
              obtain ⟨hi_96_0, hi_96_1, hi_96_2⟩ := hi_96
              have hb_v4_96' := jb_01 hb_v4_96
              try clear hr_95_2
              refine lv_lconst (v := 0) hx hb dX4_number_163 (by decide) ?_
              refine lv_lstore (lv' := [(5, .long 0), (0, .ref r0), (1, .int 1), (2, .int wt_86), (3, .int r_88), (4, .int v4_96)]) hx hb dX4_number_164 hl (by decide) rfl (fun ls hl => ?_)
              refine lv_iload_n hx hb dX4_number_166 rfl (lv_at hl 3 rfl) ?_
              refine lv_istore (lv' := [(7, .int wt_86), (5, .long 0), (0, .ref r0), (1, .int 1), (2, .int wt_86), (3, .int r_88), (4, .int v4_96)]) hx hb dX4_number_167 hl (by decide) rfl (fun ls hl => ?_)
              have L169 : ∀ (N : Nat) (v5_97 : Int64) (v7_97 : Int32) (H_97 : Heap) (locs_97 : List Loc), jSt (dC, dI) B base G0 G0 EX4_number s.heap 0 0 [(r0, 6, 11, .int wt_96), (r0, 6, 9, .ref rb), (r0, 6, 10, .int pe)] [] [] H_97 locs_97 → (wt_86.toInt ≤ v7_97.toInt ∧ v7_97.toInt ≤ wt_86.toInt + r_88.toInt) → (wt_86.toInt + r_88.toInt - v7_97.toInt : Int) < N → ∀ ls : Array Slot, lv_has ls 8 [(0, .ref r0), (1, .int 1), (2, .int wt_86), (3, .int r_88), (4, .int v4_96), (5, .long v5_97), (7, .int v7_97)] → W p l e R s m ([.ref r0] : List Value).toArray below meth c H_97 locs_97 0 0 Q (F0 m 169 ls []) := by
                intro N
                induction N with
                | zero => intro v5_97 v7_97 H_97 locs_97 hh_97  hi_97 hm; exact absurd hm (by omega)
                | succ N L169 =>
                  intro v5_97 v7_97 H_97 locs_97 hh_97  hi_97 hm_97 ls hl
                  obtain ⟨hi_97_0, hi_97_1⟩ := hi_97
                  refine lv_iload hx hb dX4_number_169 (lv_at hl 6 rfl) ?_
                  refine lv_iload_n hx hb dX4_number_171 rfl (lv_at hl 2 rfl) ?_
                  refine lv_iload_n hx hb dX4_number_172 rfl (lv_at hl 3 rfl) ?_
                  refine lv_iadd hx hb dX4_number_173 ?_
                  refine lv_topi (fun z_98 ez_98 => ?_)
                  have hz_98 : z_98.toInt = wt_86.toInt + r_88.toInt := by rw [ez_98]; exact jb_iadd2 (rfl) (rfl) (by omega)
                  have C213 : ∀ (v5_99 : Int64) (v7_99 : Int32) (H_99 : Heap) (locs_99 : List Loc), jSt (dC, dI) B base G0 G0 EX4_number s.heap 0 0 [(r0, 6, 11, .int wt_96), (r0, 6, 9, .ref rb), (r0, 6, 10, .int pe)] [] [] H_99 locs_99 → (True) → ∀ ls : Array Slot, lv_has ls 8 [(0, .ref r0), (1, .int 1), (2, .int wt_86), (3, .int r_88), (4, .int v4_96), (5, .long v5_99), (7, .int v7_99)] → W p l e R s m ([.ref r0] : List Value).toArray below meth c H_99 locs_99 0 0 Q (F0 m 213 ls []) := by
                    intro v5_99 v7_99 H_99 locs_99 hh_99  hi_99 ls hl
                    refine lv_iload_n hx hb dX4_number_213 rfl (lv_at hl 1 rfl) ?_
                    refine lv_if_eq (tgt := 223) hx hb dX4_number_214 (by decide) (fun c_100 => ?_) (fun c_100 => ?_)
                    · skip
                      exact absurd c_100 (by decide)
                    · skip
                      refine lv_lload hx hb dX4_number_217 (lv_at hl 5 rfl) ?_
                      refine lv_lneg hx hb dX4_number_219 ?_
                      refine lv_topl (fun z_101 ez_101 => ?_)
                      refine lv_goto (tgt := 225) hx hb dX4_number_220 (by decide) ?_
                      refine lv_lstore (lv' := [(5, .long z_101), (0, .ref r0), (1, .int 1), (2, .int wt_86), (3, .int r_88), (4, .int v4_96), (7, .int v7_99)]) hx hb dX4_number_225 hl (by decide) rfl (fun ls hl => ?_)
                      refine lv_iload hx hb dX4_number_227 (lv_at hl 5 rfl) ?_
                      have C255 : ∀ (w0_102 : Int32) (H_102 : Heap) (locs_102 : List Loc), jSt (dC, dI) B base G0 G0 EX4_number s.heap 0 0 [(r0, 6, 11, .int wt_96), (r0, 6, 9, .ref rb), (r0, 6, 10, .int pe)] [] [] H_102 locs_102 → (w0_102 = 0 ∨ w0_102 = 1) → (True) → ∀ ls : Array Slot, lv_has ls 8 [(0, .ref r0), (1, .int 1), (2, .int wt_86), (3, .int r_88), (4, .int v4_96), (5, .long z_101), (7, .int v7_99)] → W p l e R s m ([.ref r0] : List Value).toArray below meth c H_102 locs_102 0 0 Q (F0 m 255 ls [.int w0_102]) := by
                        intro w0_102 H_102 locs_102 hh_102 hb_w0_102 hi_102 ls hl
                        have hb_w0_102' := jb_01 hb_w0_102
                        refine lv_istore (lv' := [(4, .int w0_102), (0, .ref r0), (1, .int 1), (2, .int wt_86), (3, .int r_88), (5, .long z_101), (7, .int v7_99)]) hx hb dX4_number_255 hl (by decide) rfl (fun ls hl => ?_)
                        refine lv_iload hx hb dX4_number_257 (lv_at hl 0 rfl) ?_
                        refine lv_if_eq (tgt := 274) hx hb dX4_number_259 (by decide) (fun c_103 => ?_) (fun c_103 => ?_)
                        · skip
                          have c_103' : w0_102.toInt = 0 := jb_eq (rfl) ((by decide)) c_103
                          refine lv_aload_n hx hb dX4_number_274 rfl (lv_at hl 1 rfl) ?_
                          refine lv_iconst (v := 5) hx hb dX4_number_275 (by decide) ?_
                          refine lv_iconst (v := 0) hx hb dX4_number_276 (by decide) ?_
                          refine lv_iconst (v := 0) hx hb dX4_number_277 (by decide) ?_
                          refine va_calli (A0 := jA base) (H0 := s.heap) (va_runV (As := [.int 5, .int 0, .int 0]) (rest := []) ⟨hx, hb, hml, hown, hts⟩ (uX4_make l dC dI ca base B hB hAp hB6 hB140 hB141 hB142 hB143 hB144 hB145 G0 H_102 r0 5 0 0) (cwV 3 hts (jgV (jWr_22 _ (List.mem_of_getElem? (i := 10) rfl)) (jWr_22 _ (List.mem_of_getElem? (i := 11) rfl)) (jWr_22 _ (List.mem_of_getElem? (i := 12) rfl)) (jWr_1 _ (List.mem_of_getElem? (i := 22) rfl)) (jWr_22 _ (List.mem_of_getElem? (i := 13) rfl))) rfl rfl rfl (by decide +kernel) ⟨by rw [← hR]; exact Nat.le_of_ble_eq_true rfl, by rw [← hR]; exact Nat.le_of_ble_eq_true rfl⟩) ⟨fun a U g mk q => by obtain ⟨q0, q1, q2, qK, q10, q11, q12⟩ := q; exact ⟨q0, q1, q2, jG.calling g mk a qK, q10, q11, q12⟩, hh_102.recv (C := RX4) (T := TX4) (N := 12) hB6 rfl (by decide) hg_r0 hK, fun U hU hW => ⟨rfl, hU, hh_102.2.1, hG.step hW hU hh_102.1, hg_r0, jP.nil, trivial⟩⟩ rfl rfl hl.1 rfl (lv_room (Nat.le_of_ble_eq_true rfl)) dX4_number_278 ⟨Nat.zero_le _, Nat.zero_le _⟩) hh_102.1 (fun q _ h => h) (fun q h => h) (fun r_105 u_104 t_104 H_104 locs_104 ht_104 hvm_104 hr_105 hb_104 hz_104 hk_104 hS_104 => ?_)
                          rw [ht_104] at hb_104
                          obtain ⟨hb_1041, hb_1042, hb_1043, hb_1044, hb_1045⟩ := hb_104
                          have hh_104 : jSt (dC, dI) B base G0 G0 EX4_number s.heap 0 0 [(r0, 6, 11, .int wt_96), (r0, 6, 9, .ref rb), (r0, 6, 10, .int pe)] [] [] H_104 locs_104 := ((hh_102.call hb_1041 hb_1042 hb_1043 hb_1044 hS_104 rfl (L1 := [(r0, 6, 11, .int wt_96), (r0, 6, 9, .ref rb), (r0, 6, 10, .int pe)]) [0, 1, 2] rfl rfl (M1 := []) [] rfl rfl (I1 := []) [] rfl rfl).more hb_1045)
                          clear hh_102 ht_104 hvm_104 hz_104 hk_104 hS_104 hb_1041 hb_1042 hb_1043 hb_1044 hb_1045
                          obtain ⟨hr_105_0, hr_105_1⟩ := hr_105
                          rw [hQ]
                          exact W.iret (v := r_105) hx hb hr (fun t ht hW => ⟨⟨r_105, wt_96, rfl, by first | omega | (refine ⟨?_, ?_, ?_, ?_⟩ <;> (first | omega | rfl | assumption | decide | exact Or.inl rfl | exact Or.inr rfl | (simp only; omega))), hh_104.rt (M1 := [(r0, 6, 11, .int wt_96)]) [0] rfl ht⟩, by rw [ht]; try exact hh_104.1.1, fun q h9 hq => by rw [ht]; try exact hh_104.1.2.1 q h9 hq⟩) hh_104.1.2.2 dX4_number_281
                        · skip
                          have c_103' : w0_102.toInt ≠ 0 := jb_eq_n (rfl) ((by decide)) c_103
                          refine lv_aload_n hx hb dX4_number_262 rfl (lv_at hl 1 rfl) ?_
                          refine lv_iconst (v := 4) hx hb dX4_number_263 (by decide) ?_
                          refine lv_lload hx hb dX4_number_264 (lv_at hl 5 rfl) ?_
                          refine lv_l2i hx hb dX4_number_266 rfl ?_
                          refine lv_topi (fun z_106 ez_106 => ?_)
                          refine lv_iconst (v := 0) hx hb dX4_number_267 (by decide) ?_
                          refine va_calli (A0 := jA base) (H0 := s.heap) (va_runV (As := [.int 4, .int z_106, .int 0]) (rest := []) ⟨hx, hb, hml, hown, hts⟩ (uX4_make l dC dI ca base B hB hAp hB6 hB140 hB141 hB142 hB143 hB144 hB145 G0 H_102 r0 4 z_106 0) (cwV 3 hts (jgV (jWr_22 _ (List.mem_of_getElem? (i := 10) rfl)) (jWr_22 _ (List.mem_of_getElem? (i := 11) rfl)) (jWr_22 _ (List.mem_of_getElem? (i := 12) rfl)) (jWr_1 _ (List.mem_of_getElem? (i := 22) rfl)) (jWr_22 _ (List.mem_of_getElem? (i := 13) rfl))) rfl rfl rfl (by decide +kernel) ⟨by rw [← hR]; exact Nat.le_of_ble_eq_true rfl, by rw [← hR]; exact Nat.le_of_ble_eq_true rfl⟩) ⟨fun a U g mk q => by obtain ⟨q0, q1, q2, qK, q10, q11, q12⟩ := q; exact ⟨q0, q1, q2, jG.calling g mk a qK, q10, q11, q12⟩, hh_102.recv (C := RX4) (T := TX4) (N := 12) hB6 rfl (by decide) hg_r0 hK, fun U hU hW => ⟨rfl, hU, hh_102.2.1, hG.step hW hU hh_102.1, hg_r0, jP.nil, trivial⟩⟩ rfl rfl hl.1 rfl (lv_room (Nat.le_of_ble_eq_true rfl)) dX4_number_268 ⟨Nat.zero_le _, Nat.zero_le _⟩) hh_102.1 (fun q _ h => h) (fun q h => h) (fun r_108 u_107 t_107 H_107 locs_107 ht_107 hvm_107 hr_108 hb_107 hz_107 hk_107 hS_107 => ?_)
                          rw [ht_107] at hb_107
                          obtain ⟨hb_1071, hb_1072, hb_1073, hb_1074, hb_1075⟩ := hb_107
                          have hh_107 : jSt (dC, dI) B base G0 G0 EX4_number s.heap 0 0 [(r0, 6, 11, .int wt_96), (r0, 6, 9, .ref rb), (r0, 6, 10, .int pe)] [] [] H_107 locs_107 := ((hh_102.call hb_1071 hb_1072 hb_1073 hb_1074 hS_107 rfl (L1 := [(r0, 6, 11, .int wt_96), (r0, 6, 9, .ref rb), (r0, 6, 10, .int pe)]) [0, 1, 2] rfl rfl (M1 := []) [] rfl rfl (I1 := []) [] rfl rfl).more hb_1075)
                          clear hh_102 ht_107 hvm_107 hz_107 hk_107 hS_107 hb_1071 hb_1072 hb_1073 hb_1074 hb_1075
                          obtain ⟨hr_108_0, hr_108_1⟩ := hr_108
                          refine lv_goto (tgt := 281) hx hb dX4_number_271 (by decide) ?_
                          rw [hQ]
                          exact W.iret (v := r_108) hx hb hr (fun t ht hW => ⟨⟨r_108, wt_96, rfl, by first | omega | (refine ⟨?_, ?_, ?_, ?_⟩ <;> (first | omega | rfl | assumption | decide | exact Or.inl rfl | exact Or.inr rfl | (simp only; omega))), hh_107.rt (M1 := [(r0, 6, 11, .int wt_96)]) [0] rfl ht⟩, by rw [ht]; try exact hh_107.1.1, fun q h9 hq => by rw [ht]; try exact hh_107.1.2.1 q h9 hq⟩) hh_107.1.2.2 dX4_number_281
                      refine lv_if_eq (tgt := 254) hx hb dX4_number_229 (by decide) (fun c_109 => ?_) (fun c_109 => ?_)
                      · skip
                        have c_109' : v4_96.toInt = 0 := jb_eq (rfl) ((by decide)) c_109
                        refine lv_iconst (v := 0) hx hb dX4_number_254 (by decide) ?_
                        exact C255 0 _ _ hh_99 (Or.inl rfl) (trivial) _ (lv_sub hl [1, 2, 3, 4, 5, 0, 6] rfl)
                      · skip
                        have c_109' : v4_96.toInt ≠ 0 := jb_eq_n (rfl) ((by decide)) c_109
                        refine lv_lload hx hb dX4_number_232 (lv_at hl 0 rfl) ?_
                        refine lv_ldc2 hx hb hown (htw (.constantLong RX4 136 (-2147483648)) (jWr_22 _ (List.mem_of_getElem? (i := 23) rfl))) dX4_number_234 ?_
                        refine W.lcmp hx hb dX4_number_237 ?_
                        refine lv_topi (fun z_110 ez_110 => ?_)
                        have hz_110 := jb_lcmp ez_110
                        have hqz_110_m2147483648 : ((-2147483648) : Int64).toInt = (-2147483648) := by decide
                        refine lv_if_lt (tgt := 254) hx hb dX4_number_238 (by decide) (fun c_111 => ?_) (fun c_111 => ?_)
                        · skip
                          have c_111' : z_110.toInt < 0 := jb_lt (rfl) ((by decide)) c_111
                          refine lv_iconst (v := 0) hx hb dX4_number_254 (by decide) ?_
                          exact C255 0 _ _ hh_99 (Or.inl rfl) (trivial) _ (lv_sub hl [1, 2, 3, 4, 5, 0, 6] rfl)
                        · skip
                          have c_111' : z_110.toInt ≥ 0 := jb_lt_n (rfl) ((by decide)) c_111
                          refine lv_lload hx hb dX4_number_241 (lv_at hl 0 rfl) ?_
                          refine lv_ldc2 hx hb hown (htw (.constantLong RX4 138 2147483647) (jWr_23 _ (List.mem_of_getElem? (i := 0) rfl))) dX4_number_243 ?_
                          refine W.lcmp hx hb dX4_number_246 ?_
                          refine lv_topi (fun z_112 ez_112 => ?_)
                          have hz_112 := jb_lcmp ez_112
                          have hqz_112_2147483647 : (2147483647 : Int64).toInt = 2147483647 := by decide
                          refine lv_if_gt (tgt := 254) hx hb dX4_number_247 (by decide) (fun c_113 => ?_) (fun c_113 => ?_)
                          · skip
                            have c_113' : z_112.toInt > 0 := jb_gt (rfl) ((by decide)) c_113
                            refine lv_iconst (v := 0) hx hb dX4_number_254 (by decide) ?_
                            exact C255 0 _ _ hh_99 (Or.inl rfl) (trivial) _ (lv_sub hl [1, 2, 3, 4, 5, 0, 6] rfl)
                          · skip
                            have c_113' : z_112.toInt ≤ 0 := jb_gt_n (rfl) ((by decide)) c_113
                            refine lv_iconst (v := 1) hx hb dX4_number_250 (by decide) ?_
                            refine lv_goto (tgt := 255) hx hb dX4_number_251 (by decide) ?_
                            exact C255 1 _ _ hh_99 (Or.inr rfl) (trivial) _ (lv_sub hl [1, 2, 3, 4, 5, 0, 6] rfl)
                  refine lv_icmp_ge (tgt := 213) hx hb dX4_number_174 (by decide) (fun c_114 => ?_) (fun c_114 => ?_)
                  · skip
                    have c_114' : v7_97.toInt ≥ z_98.toInt := jb_ge (rfl) (rfl) c_114
                    exact C213 v5_97 v7_97 _ _ hh_97 (trivial) _ (lv_sub hl [0, 1, 2, 3, 4, 5, 6] rfl)
                  · skip
                    have c_114' : v7_97.toInt < z_98.toInt := jb_ge_n (rfl) (rfl) c_114
                    refine lv_lload hx hb dX4_number_177 (lv_at hl 5 rfl) ?_
                    refine lv_ldc2 hx hb hown (htw (.constantLong RX4 130 2147483648) (jWr_22 _ (List.mem_of_getElem? (i := 20) rfl))) dX4_number_179 ?_
                    refine W.lcmp hx hb dX4_number_182 ?_
                    refine lv_topi (fun z_115 ez_115 => ?_)
                    have hz_115 := jb_lcmp ez_115
                    have hqz_115_2147483648 : (2147483648 : Int64).toInt = 2147483648 := by decide
                    refine lv_if_gt (tgt := 213) hx hb dX4_number_183 (by decide) (fun c_116 => ?_) (fun c_116 => ?_)
                    · skip
                      have c_116' : z_115.toInt > 0 := jb_gt (rfl) ((by decide)) c_116
                      exact C213 v5_97 v7_97 _ _ hh_97 (trivial) _ (lv_sub hl [0, 1, 2, 3, 4, 5, 6] rfl)
                    · skip
                      have c_116' : z_115.toInt ≤ 0 := jb_gt_n (rfl) ((by decide)) c_116
                      refine lv_lload hx hb dX4_number_186 (lv_at hl 5 rfl) ?_
                      refine lv_ldc2 hx hb hown (htw (.constantLong RX4 132 10) (jWr_22 _ (List.mem_of_getElem? (i := 21) rfl))) dX4_number_188 ?_
                      refine lv_lmul hx hb dX4_number_191 ?_
                      refine lv_topl (fun z_117 ez_117 => ?_)
                      refine lv_aload_n hx hb dX4_number_192 rfl (lv_at hl 0 rfl) ?_
                      refine j7_read hx hb hown hK (C := RX4) (T := TX4) (N := 12) rfl hly_6_9 hlk_33 (hh_97.at 1 rfl) dX4_number_193 ?_
                      refine lv_iload hx hb dX4_number_196 (lv_at hl 6 rfl) ?_
                      refine j7_bald hx hb hK hh_97 hB100 0 rfl (by decide) hg_rb (x := v7_97.toInt) (rfl) (by omega) dX4_number_198 (fun z_118 (hz_118 : True) => ?_)
                      refine lv_i2l hx hb dX4_number_199 rfl ?_
                      refine lv_topl (fun z_119 ez_119 => ?_)
                      refine lv_ladd hx hb dX4_number_200 ?_
                      refine lv_topl (fun z_120 ez_120 => ?_)
                      refine lv_ldc2 hx hb hown (htw (.constantLong RX4 134 48) (jWr_22 _ (List.mem_of_getElem? (i := 22) rfl))) dX4_number_201 ?_
                      refine lv_lsub hx hb dX4_number_204 ?_
                      refine lv_topl (fun z_121 ez_121 => ?_)
                      refine lv_lstore (lv' := [(5, .long z_121), (0, .ref r0), (1, .int 1), (2, .int wt_86), (3, .int r_88), (4, .int v4_96), (7, .int v7_97)]) hx hb dX4_number_205 hl (by decide) rfl (fun ls hl => ?_)
                      obtain ⟨z_122, ez_122⟩ : ∃ y : Int32, y = v7_97 + 1 := ⟨_, rfl⟩
                      refine lv_iinc (v := z_122) (lv' := [(7, .int z_122), (5, .long z_121), (0, .ref r0), (1, .int 1), (2, .int wt_86), (3, .int r_88), (4, .int v4_96)]) hx hb dX4_number_207 hl (k := 6) rfl (by rw [ez_122]; rfl) (by decide) rfl (fun ls hl => ?_)
                      have hz_122 : z_122.toInt = v7_97.toInt + 1 := by rw [ez_122]; exact jb_iadd2 (rfl) (by decide) (by omega)
                      refine lv_goto (tgt := 169) hx hb dX4_number_210 (by decide) ?_
                      exact L169 z_121 z_122 _ _ hh_97 (by first | omega | (refine ⟨?_, ?_⟩ <;> (first | omega | rfl | assumption | decide | exact Or.inl rfl | exact Or.inr rfl | (simp only; omega)))) (by omega) _ (lv_sub hl [2, 3, 4, 5, 6, 1, 0] rfl)
              exact L169 (wt_86.toInt + r_88.toInt - (wt_86 : Int32).toInt : Int).toNat.succ 0 wt_86 _ _ hh_96 (by first | omega | (refine ⟨?_, ?_⟩ <;> (first | omega | rfl | assumption | decide | exact Or.inl rfl | exact Or.inr rfl | (simp only; omega)))) (by omega) _ (lv_sub hl [2, 3, 4, 5, 6, 1, 0] rfl)
            refine lv_icmp_eq (tgt := 113) hx hb dX4_number_101 (by decide) (fun c_123 => ?_) (fun c_123 => ?_)
            · skip
              have c_123' : r_95.toInt = 101 := jb_eq (rfl) ((by decide)) c_123
              first | (have hr_95_2q := hr_95_2.resolve_left (by omega); clear hr_95_2) | (have hr_95_2q := hr_95_2.resolve_right (by omega); clear hr_95_2) | try clear hr_95_2
              refine lv_iconst (v := 0) hx hb dX4_number_113 (by decide) ?_
              refine lv_istore (lv' := [(4, .int 0), (0, .ref r0), (1, .int 1), (2, .int wt_86), (3, .int r_88)]) hx hb dX4_number_114 hl (by decide) rfl (fun ls hl => ?_)
              refine lv_aload_n hx hb dX4_number_116 rfl (lv_at hl 1 rfl) ?_
              refine lv_dup hx hb dX4_number_117 rfl ?_
              refine j7_read hx hb hown hK (C := RX4) (T := TX4) (N := 12) rfl hly_6_11 hlk_47 (hh_94.at 0 rfl) dX4_number_118 ?_
              refine lv_iconst (v := 1) hx hb dX4_number_121 (by decide) ?_
              refine lv_iadd hx hb dX4_number_122 ?_
              refine lv_topi (fun z_124 ez_124 => ?_)
              have hz_124 : z_124.toInt = wt_93.toInt + 1 := by rw [ez_124]; exact jb_iadd2 (rfl) ((by decide)) (by omega)
              refine j7_put hx hb hown hK hh_94 hB hAp hB6 (C := RX4) (T := TX4) (N := 12) rfl (by decide) hg_r0 (i := 11) (by decide) hly_6_11 rfl hlk_47 rfl (ty := .int) (v := .int z_124) (by decide +kernel) rfl rfl (⟨_, rfl, by omega, by omega⟩) rfl (L1 := [(r0, 6, 9, .ref rb), (r0, 6, 10, .int pe)]) [1, 2] rfl rfl rfl dX4_number_123 (fun H_125 locs_125 hh_125 => ?_)
              clear hh_94
              refine lv_aload_n hx hb dX4_number_126 rfl (lv_at hl 1 rfl) ?_
              refine va_calli (A0 := jA base) (H0 := s.heap) (va_runV (As := []) (rest := []) ⟨hx, hb, hml, hown, hts⟩ (uX4_peek l dC dI ca base B hB hAp hB6 hB100 G0 H_125 r0 rb n_rb pe z_124) (cwV 0 hts (jgV (jWr_19 _ (List.mem_of_getElem? (i := 19) rfl)) (jWr_19 _ (List.mem_of_getElem? (i := 20) rfl)) (jWr_19 _ (List.mem_of_getElem? (i := 21) rfl)) (jWr_1 _ (List.mem_of_getElem? (i := 22) rfl)) (jWr_19 _ (List.mem_of_getElem? (i := 22) rfl))) rfl rfl rfl (by decide +kernel) ⟨by rw [← hR]; exact Nat.le_of_ble_eq_true rfl, by rw [← hR]; exact Nat.le_of_ble_eq_true rfl⟩) ⟨fun a U g mk q => by obtain ⟨q0, q1, q2, qK, q10, q11, q12, q13⟩ := q; exact ⟨q0, q1, q2, jG.calling g mk a qK, q10, q11, q12, q13⟩, hh_125.recv (C := RX4) (T := TX4) (N := 12) hB6 rfl (by decide) hg_r0 hK, fun U hU hW => ⟨rfl, hU, hh_125.2.1, hG.step hW hU hh_125.1, hg_r0, hg_rb, (hh_125.2.2.1.sub (L1 := [(r0, 6, 9, .ref rb), (r0, 6, 10, .int pe), (r0, 6, 11, .int z_124)]) [1, 2, 0] rfl), by first | omega | (refine ⟨?_, ?_, ?_, ?_, ?_⟩ <;> (first | omega | rfl | assumption | decide | exact Or.inl rfl | exact Or.inr rfl | (simp only; omega)))⟩⟩ rfl rfl hl.1 rfl (lv_room (Nat.le_of_ble_eq_true rfl)) dX4_number_127 ⟨Nat.zero_le _, Nat.zero_le _⟩) hh_125.1 (fun q _ h => h) (fun q h => h) (fun r_127 u_126 t_126 H_126 locs_126 ht_126 hvm_126 hr_127 hb_126 hz_126 hk_126 hS_126 => ?_)
              rw [ht_126] at hb_126
              obtain ⟨hb_1261, hb_1262, hb_1263, hb_1264, hb_1265⟩ := hb_126
              have hh_126 : jSt (dC, dI) B base G0 G0 EX4_number s.heap 0 0 [(r0, 6, 11, .int z_124), (r0, 6, 9, .ref rb), (r0, 6, 10, .int pe)] [] [] H_126 locs_126 := ((hh_125.call hb_1261 hb_1262 hb_1263 hb_1264 hS_126 rfl (L1 := [(r0, 6, 11, .int z_124), (r0, 6, 9, .ref rb), (r0, 6, 10, .int pe)]) [0, 1, 2] rfl rfl (M1 := []) [] rfl rfl (I1 := []) [] rfl rfl).more hb_1265)
              clear hh_125 ht_126 hvm_126 hz_126 hk_126 hS_126 hb_1261 hb_1262 hb_1263 hb_1264 hb_1265
              obtain ⟨hr_127_0, hr_127_1, hr_127_2⟩ := hr_127
              refine lv_bipush (v := 43) hx hb dX4_number_130 (by decide) ?_
              have C154 : ∀ (wt_128 : Int32) (H_128 : Heap) (locs_128 : List Loc), jSt (dC, dI) B base G0 G0 EX4_number s.heap 0 0 [(r0, 6, 11, .int wt_128), (r0, 6, 9, .ref rb), (r0, 6, 10, .int pe)] [] [] H_128 locs_128 → (pt.toInt ≤ wt_128.toInt ∧ wt_128.toInt ≤ pe.toInt ∧ z_124.toInt ≤ wt_128.toInt) → ∀ ls : Array Slot, lv_has ls 8 [(0, .ref r0), (1, .int 1), (2, .int wt_86), (3, .int r_88), (4, .int 0)] → W p l e R s m ([.ref r0] : List Value).toArray below meth c H_128 locs_128 0 0 Q (F0 m 154 ls []) := by
                intro wt_128 H_128 locs_128 hh_128  hi_128 ls hl
                obtain ⟨hi_128_0, hi_128_1, hi_128_2⟩ := hi_128
                try clear hr_127_2
                refine lv_aload_n hx hb dX4_number_154 rfl (lv_at hl 0 rfl) ?_
                refine va_calli (A0 := jA base) (H0 := s.heap) (va_runV (As := []) (rest := []) ⟨hx, hb, hml, hown, hts⟩ (uX4_digits l dC dI ca base B hB hAp hB6 hB100 G0 H_128 r0 rb n_rb pe wt_128) (cwV 0 hts (jgV (jWr_23 _ (List.mem_of_getElem? (i := 1) rfl)) (jWr_23 _ (List.mem_of_getElem? (i := 2) rfl)) (jWr_23 _ (List.mem_of_getElem? (i := 3) rfl)) (jWr_1 _ (List.mem_of_getElem? (i := 22) rfl)) (jWr_23 _ (List.mem_of_getElem? (i := 4) rfl))) rfl rfl rfl (by decide +kernel) ⟨by rw [← hR]; exact Nat.le_of_ble_eq_true rfl, by rw [← hR]; exact Nat.le_of_ble_eq_true rfl⟩) ⟨fun a U g mk q => by obtain ⟨q0, q1, q2, qK, q10, q11, q12, q13⟩ := q; exact ⟨q0, q1, q2, jG.calling g mk a qK, q10, q11, q12, q13⟩, hh_128.recv (C := RX4) (T := TX4) (N := 12) hB6 rfl (by decide) hg_r0 hK, fun U hU hW => ⟨rfl, hU, hh_128.2.1, hG.step hW hU hh_128.1, hg_r0, hg_rb, (hh_128.2.2.1.sub (L1 := [(r0, 6, 9, .ref rb), (r0, 6, 10, .int pe), (r0, 6, 11, .int wt_128)]) [1, 2, 0] rfl), by first | omega | (refine ⟨?_, ?_, ?_, ?_, ?_, ?_⟩ <;> (first | omega | rfl | assumption | decide | exact Or.inl rfl | exact Or.inr rfl | (simp only; omega)))⟩⟩ rfl rfl hl.1 rfl (lv_room (Nat.le_of_ble_eq_true rfl)) dX4_number_155 ⟨Nat.zero_le _, Nat.zero_le _⟩) hh_128.1 (fun q _ h => h) (fun q h => h) (fun r_130 u_129 t_129 H_129 locs_129 ht_129 hvm_129 hr_130 hb_129 hz_129 hk_129 hS_129 => ?_)
                obtain ⟨qt_129, rfl⟩ : ∃ z, z = u_129 := ⟨_, rfl⟩
                rw [ht_129] at hb_129
                obtain ⟨hb_1291, hb_1292, hb_1293, hb_1294, hb_1295⟩ := hb_129
                have hh_129 : jSt (dC, dI) B base G0 G0 EX4_number s.heap 0 0 [(r0, 6, 11, .int qt_129), (r0, 6, 9, .ref rb), (r0, 6, 10, .int pe)] [] [] H_129 locs_129 := ((hh_128.call hb_1291 hb_1292 hb_1293 hb_1294 hS_129 rfl (L1 := [(r0, 6, 9, .ref rb), (r0, 6, 10, .int pe)]) [1, 2] rfl rfl (M1 := []) [] rfl rfl (I1 := []) [] rfl rfl).more hb_1295)
                clear hh_128 ht_129 hvm_129 hz_129 hk_129 hS_129 hb_1291 hb_1292 hb_1293 hb_1294 hb_1295
                obtain ⟨hr_130_0, hr_130_1, hr_130_2⟩ := hr_130
                refine lv_if_ne (tgt := 163) hx hb dX4_number_158 (by decide) (fun c_131 => ?_) (fun c_131 => ?_)
                · skip
                  have c_131' : r_130.toInt ≠ 0 := jb_ne (rfl) ((by decide)) c_131
                  exact C163 0 qt_129 _ _ hh_129 (Or.inl rfl) (by first | omega | (refine ⟨?_, ?_, ?_⟩ <;> (first | omega | rfl | assumption | decide | exact Or.inl rfl | exact Or.inr rfl | (simp only; omega)))) _ (lv_sub hl [0, 1, 2, 3, 4] rfl)
                · skip
                  have c_131' : r_130.toInt = 0 := jb_ne_n (rfl) ((by decide)) c_131
                  refine lv_iconst (v := (-1)) hx hb dX4_number_161 (by decide) ?_
                  rw [hQ]
                  exact W.iret (v := (-1)) hx hb hr (fun t ht hW => ⟨⟨(-1), qt_129, rfl, by first | omega | (refine ⟨?_, ?_, ?_, ?_⟩ <;> (first | omega | rfl | assumption | decide | exact Or.inl rfl | exact Or.inr rfl | (simp only; omega))), hh_129.rt (M1 := [(r0, 6, 11, .int qt_129)]) [0] rfl ht⟩, by rw [ht]; try exact hh_129.1.1, fun q h9 hq => by rw [ht]; try exact hh_129.1.2.1 q h9 hq⟩) hh_129.1.2.2 dX4_number_162
              refine lv_icmp_eq (tgt := 144) hx hb dX4_number_132 (by decide) (fun c_132 => ?_) (fun c_132 => ?_)
              · skip
                have c_132' : r_127.toInt = 43 := jb_eq (rfl) ((by decide)) c_132
                first | (have hr_127_2q := hr_127_2.resolve_left (by omega); clear hr_127_2) | (have hr_127_2q := hr_127_2.resolve_right (by omega); clear hr_127_2) | try clear hr_127_2
                refine lv_aload_n hx hb dX4_number_144 rfl (lv_at hl 1 rfl) ?_
                refine lv_dup hx hb dX4_number_145 rfl ?_
                refine j7_read hx hb hown hK (C := RX4) (T := TX4) (N := 12) rfl hly_6_11 hlk_47 (hh_126.at 0 rfl) dX4_number_146 ?_
                refine lv_iconst (v := 1) hx hb dX4_number_149 (by decide) ?_
                refine lv_iadd hx hb dX4_number_150 ?_
                refine lv_topi (fun z_133 ez_133 => ?_)
                have hz_133 : z_133.toInt = z_124.toInt + 1 := by rw [ez_133]; exact jb_iadd2 (rfl) ((by decide)) (by omega)
                refine j7_put hx hb hown hK hh_126 hB hAp hB6 (C := RX4) (T := TX4) (N := 12) rfl (by decide) hg_r0 (i := 11) (by decide) hly_6_11 rfl hlk_47 rfl (ty := .int) (v := .int z_133) (by decide +kernel) rfl rfl (⟨_, rfl, by omega, by omega⟩) rfl (L1 := [(r0, 6, 9, .ref rb), (r0, 6, 10, .int pe)]) [1, 2] rfl rfl rfl dX4_number_151 (fun H_134 locs_134 hh_134 => ?_)
                clear hh_126
                exact C154 z_133 _ _ hh_134 (by first | omega | (refine ⟨?_, ?_, ?_⟩ <;> (first | omega | rfl | assumption | decide | exact Or.inl rfl | exact Or.inr rfl | (simp only; omega)))) _ (lv_sub hl [1, 2, 3, 4, 0] rfl)
              · skip
                have c_132' : r_127.toInt ≠ 43 := jb_eq_n (rfl) ((by decide)) c_132
                try clear hr_127_2
                refine lv_aload_n hx hb dX4_number_135 rfl (lv_at hl 1 rfl) ?_
                refine va_calli (A0 := jA base) (H0 := s.heap) (va_runV (As := []) (rest := []) ⟨hx, hb, hml, hown, hts⟩ (uX4_peek l dC dI ca base B hB hAp hB6 hB100 G0 H_126 r0 rb n_rb pe z_124) (cwV 0 hts (jgV (jWr_19 _ (List.mem_of_getElem? (i := 19) rfl)) (jWr_19 _ (List.mem_of_getElem? (i := 20) rfl)) (jWr_19 _ (List.mem_of_getElem? (i := 21) rfl)) (jWr_1 _ (List.mem_of_getElem? (i := 22) rfl)) (jWr_19 _ (List.mem_of_getElem? (i := 22) rfl))) rfl rfl rfl (by decide +kernel) ⟨by rw [← hR]; exact Nat.le_of_ble_eq_true rfl, by rw [← hR]; exact Nat.le_of_ble_eq_true rfl⟩) ⟨fun a U g mk q => by obtain ⟨q0, q1, q2, qK, q10, q11, q12, q13⟩ := q; exact ⟨q0, q1, q2, jG.calling g mk a qK, q10, q11, q12, q13⟩, hh_126.recv (C := RX4) (T := TX4) (N := 12) hB6 rfl (by decide) hg_r0 hK, fun U hU hW => ⟨rfl, hU, hh_126.2.1, hG.step hW hU hh_126.1, hg_r0, hg_rb, (hh_126.2.2.1.sub (L1 := [(r0, 6, 9, .ref rb), (r0, 6, 10, .int pe), (r0, 6, 11, .int z_124)]) [1, 2, 0] rfl), by first | omega | (refine ⟨?_, ?_, ?_, ?_, ?_⟩ <;> (first | omega | rfl | assumption | decide | exact Or.inl rfl | exact Or.inr rfl | (simp only; omega)))⟩⟩ rfl rfl hl.1 rfl (lv_room (Nat.le_of_ble_eq_true rfl)) dX4_number_136 ⟨Nat.zero_le _, Nat.zero_le _⟩) hh_126.1 (fun q _ h => h) (fun q h => h) (fun r_136 u_135 t_135 H_135 locs_135 ht_135 hvm_135 hr_136 hb_135 hz_135 hk_135 hS_135 => ?_)
                rw [ht_135] at hb_135
                obtain ⟨hb_1351, hb_1352, hb_1353, hb_1354, hb_1355⟩ := hb_135
                have hh_135 : jSt (dC, dI) B base G0 G0 EX4_number s.heap 0 0 [(r0, 6, 11, .int z_124), (r0, 6, 9, .ref rb), (r0, 6, 10, .int pe)] [] [] H_135 locs_135 := ((hh_126.call hb_1351 hb_1352 hb_1353 hb_1354 hS_135 rfl (L1 := [(r0, 6, 11, .int z_124), (r0, 6, 9, .ref rb), (r0, 6, 10, .int pe)]) [0, 1, 2] rfl rfl (M1 := []) [] rfl rfl (I1 := []) [] rfl rfl).more hb_1355)
                clear hh_126 ht_135 hvm_135 hz_135 hk_135 hS_135 hb_1351 hb_1352 hb_1353 hb_1354 hb_1355
                obtain ⟨hr_136_0, hr_136_1, hr_136_2⟩ := hr_136
                refine lv_bipush (v := 45) hx hb dX4_number_139 (by decide) ?_
                refine lv_icmp_ne (tgt := 154) hx hb dX4_number_141 (by decide) (fun c_137 => ?_) (fun c_137 => ?_)
                · skip
                  have c_137' : r_136.toInt ≠ 45 := jb_ne (rfl) ((by decide)) c_137
                  try clear hr_136_2
                  exact C154 z_124 _ _ hh_135 (by first | omega | (refine ⟨?_, ?_, ?_⟩ <;> (first | omega | rfl | assumption | decide | exact Or.inl rfl | exact Or.inr rfl | (simp only; omega)))) _ (lv_sub hl [1, 2, 3, 4, 0] rfl)
                · skip
                  have c_137' : r_136.toInt = 45 := jb_ne_n (rfl) ((by decide)) c_137
                  first | (have hr_136_2q := hr_136_2.resolve_left (by omega); clear hr_136_2) | (have hr_136_2q := hr_136_2.resolve_right (by omega); clear hr_136_2) | try clear hr_136_2
                  refine lv_aload_n hx hb dX4_number_144 rfl (lv_at hl 1 rfl) ?_
                  refine lv_dup hx hb dX4_number_145 rfl ?_
                  refine j7_read hx hb hown hK (C := RX4) (T := TX4) (N := 12) rfl hly_6_11 hlk_47 (hh_135.at 0 rfl) dX4_number_146 ?_
                  refine lv_iconst (v := 1) hx hb dX4_number_149 (by decide) ?_
                  refine lv_iadd hx hb dX4_number_150 ?_
                  refine lv_topi (fun z_138 ez_138 => ?_)
                  have hz_138 : z_138.toInt = z_124.toInt + 1 := by rw [ez_138]; exact jb_iadd2 (rfl) ((by decide)) (by omega)
                  refine j7_put hx hb hown hK hh_135 hB hAp hB6 (C := RX4) (T := TX4) (N := 12) rfl (by decide) hg_r0 (i := 11) (by decide) hly_6_11 rfl hlk_47 rfl (ty := .int) (v := .int z_138) (by decide +kernel) rfl rfl (⟨_, rfl, by omega, by omega⟩) rfl (L1 := [(r0, 6, 9, .ref rb), (r0, 6, 10, .int pe)]) [1, 2] rfl rfl rfl dX4_number_151 (fun H_139 locs_139 hh_139 => ?_)
                  clear hh_135
                  exact C154 z_138 _ _ hh_139 (by first | omega | (refine ⟨?_, ?_, ?_⟩ <;> (first | omega | rfl | assumption | decide | exact Or.inl rfl | exact Or.inr rfl | (simp only; omega)))) _ (lv_sub hl [1, 2, 3, 4, 0] rfl)
            · skip
              have c_123' : r_95.toInt ≠ 101 := jb_eq_n (rfl) ((by decide)) c_123
              try clear hr_95_2
              refine lv_aload_n hx hb dX4_number_104 rfl (lv_at hl 0 rfl) ?_
              refine va_calli (A0 := jA base) (H0 := s.heap) (va_runV (As := []) (rest := []) ⟨hx, hb, hml, hown, hts⟩ (uX4_peek l dC dI ca base B hB hAp hB6 hB100 G0 H_94 r0 rb n_rb pe wt_93) (cwV 0 hts (jgV (jWr_19 _ (List.mem_of_getElem? (i := 19) rfl)) (jWr_19 _ (List.mem_of_getElem? (i := 20) rfl)) (jWr_19 _ (List.mem_of_getElem? (i := 21) rfl)) (jWr_1 _ (List.mem_of_getElem? (i := 22) rfl)) (jWr_19 _ (List.mem_of_getElem? (i := 22) rfl))) rfl rfl rfl (by decide +kernel) ⟨by rw [← hR]; exact Nat.le_of_ble_eq_true rfl, by rw [← hR]; exact Nat.le_of_ble_eq_true rfl⟩) ⟨fun a U g mk q => by obtain ⟨q0, q1, q2, qK, q10, q11, q12, q13⟩ := q; exact ⟨q0, q1, q2, jG.calling g mk a qK, q10, q11, q12, q13⟩, hh_94.recv (C := RX4) (T := TX4) (N := 12) hB6 rfl (by decide) hg_r0 hK, fun U hU hW => ⟨rfl, hU, hh_94.2.1, hG.step hW hU hh_94.1, hg_r0, hg_rb, (hh_94.2.2.1.sub (L1 := [(r0, 6, 9, .ref rb), (r0, 6, 10, .int pe), (r0, 6, 11, .int wt_93)]) [1, 2, 0] rfl), by first | omega | (refine ⟨?_, ?_, ?_, ?_, ?_⟩ <;> (first | omega | rfl | assumption | decide | exact Or.inl rfl | exact Or.inr rfl | (simp only; omega)))⟩⟩ rfl rfl hl.1 rfl (lv_room (Nat.le_of_ble_eq_true rfl)) dX4_number_105 ⟨Nat.zero_le _, Nat.zero_le _⟩) hh_94.1 (fun q _ h => h) (fun q h => h) (fun r_141 u_140 t_140 H_140 locs_140 ht_140 hvm_140 hr_141 hb_140 hz_140 hk_140 hS_140 => ?_)
              rw [ht_140] at hb_140
              obtain ⟨hb_1401, hb_1402, hb_1403, hb_1404, hb_1405⟩ := hb_140
              have hh_140 : jSt (dC, dI) B base G0 G0 EX4_number s.heap 0 0 [(r0, 6, 11, .int wt_93), (r0, 6, 9, .ref rb), (r0, 6, 10, .int pe)] [] [] H_140 locs_140 := ((hh_94.call hb_1401 hb_1402 hb_1403 hb_1404 hS_140 rfl (L1 := [(r0, 6, 11, .int wt_93), (r0, 6, 9, .ref rb), (r0, 6, 10, .int pe)]) [0, 1, 2] rfl rfl (M1 := []) [] rfl rfl (I1 := []) [] rfl rfl).more hb_1405)
              clear hh_94 ht_140 hvm_140 hz_140 hk_140 hS_140 hb_1401 hb_1402 hb_1403 hb_1404 hb_1405
              obtain ⟨hr_141_0, hr_141_1, hr_141_2⟩ := hr_141
              refine lv_bipush (v := 69) hx hb dX4_number_108 (by decide) ?_
              refine lv_icmp_ne (tgt := 163) hx hb dX4_number_110 (by decide) (fun c_142 => ?_) (fun c_142 => ?_)
              · skip
                have c_142' : r_141.toInt ≠ 69 := jb_ne (rfl) ((by decide)) c_142
                try clear hr_141_2
                exact C163 v4_93 wt_93 _ _ hh_140 (hb_v4_93) (by first | omega | (refine ⟨?_, ?_, ?_⟩ <;> (first | omega | rfl | assumption | decide | exact Or.inl rfl | exact Or.inr rfl | (simp only; omega)))) _ (lv_sub hl [0, 1, 2, 3, 4] rfl)
              · skip
                have c_142' : r_141.toInt = 69 := jb_ne_n (rfl) ((by decide)) c_142
                first | (have hr_141_2q := hr_141_2.resolve_left (by omega); clear hr_141_2) | (have hr_141_2q := hr_141_2.resolve_right (by omega); clear hr_141_2) | try clear hr_141_2
                refine lv_iconst (v := 0) hx hb dX4_number_113 (by decide) ?_
                refine lv_istore (lv' := [(4, .int 0), (0, .ref r0), (1, .int 1), (2, .int wt_86), (3, .int r_88)]) hx hb dX4_number_114 hl (by decide) rfl (fun ls hl => ?_)
                refine lv_aload_n hx hb dX4_number_116 rfl (lv_at hl 1 rfl) ?_
                refine lv_dup hx hb dX4_number_117 rfl ?_
                refine j7_read hx hb hown hK (C := RX4) (T := TX4) (N := 12) rfl hly_6_11 hlk_47 (hh_140.at 0 rfl) dX4_number_118 ?_
                refine lv_iconst (v := 1) hx hb dX4_number_121 (by decide) ?_
                refine lv_iadd hx hb dX4_number_122 ?_
                refine lv_topi (fun z_143 ez_143 => ?_)
                have hz_143 : z_143.toInt = wt_93.toInt + 1 := by rw [ez_143]; exact jb_iadd2 (rfl) ((by decide)) (by omega)
                refine j7_put hx hb hown hK hh_140 hB hAp hB6 (C := RX4) (T := TX4) (N := 12) rfl (by decide) hg_r0 (i := 11) (by decide) hly_6_11 rfl hlk_47 rfl (ty := .int) (v := .int z_143) (by decide +kernel) rfl rfl (⟨_, rfl, by omega, by omega⟩) rfl (L1 := [(r0, 6, 9, .ref rb), (r0, 6, 10, .int pe)]) [1, 2] rfl rfl rfl dX4_number_123 (fun H_144 locs_144 hh_144 => ?_)
                clear hh_140
                refine lv_aload_n hx hb dX4_number_126 rfl (lv_at hl 1 rfl) ?_
                refine va_calli (A0 := jA base) (H0 := s.heap) (va_runV (As := []) (rest := []) ⟨hx, hb, hml, hown, hts⟩ (uX4_peek l dC dI ca base B hB hAp hB6 hB100 G0 H_144 r0 rb n_rb pe z_143) (cwV 0 hts (jgV (jWr_19 _ (List.mem_of_getElem? (i := 19) rfl)) (jWr_19 _ (List.mem_of_getElem? (i := 20) rfl)) (jWr_19 _ (List.mem_of_getElem? (i := 21) rfl)) (jWr_1 _ (List.mem_of_getElem? (i := 22) rfl)) (jWr_19 _ (List.mem_of_getElem? (i := 22) rfl))) rfl rfl rfl (by decide +kernel) ⟨by rw [← hR]; exact Nat.le_of_ble_eq_true rfl, by rw [← hR]; exact Nat.le_of_ble_eq_true rfl⟩) ⟨fun a U g mk q => by obtain ⟨q0, q1, q2, qK, q10, q11, q12, q13⟩ := q; exact ⟨q0, q1, q2, jG.calling g mk a qK, q10, q11, q12, q13⟩, hh_144.recv (C := RX4) (T := TX4) (N := 12) hB6 rfl (by decide) hg_r0 hK, fun U hU hW => ⟨rfl, hU, hh_144.2.1, hG.step hW hU hh_144.1, hg_r0, hg_rb, (hh_144.2.2.1.sub (L1 := [(r0, 6, 9, .ref rb), (r0, 6, 10, .int pe), (r0, 6, 11, .int z_143)]) [1, 2, 0] rfl), by first | omega | (refine ⟨?_, ?_, ?_, ?_, ?_⟩ <;> (first | omega | rfl | assumption | decide | exact Or.inl rfl | exact Or.inr rfl | (simp only; omega)))⟩⟩ rfl rfl hl.1 rfl (lv_room (Nat.le_of_ble_eq_true rfl)) dX4_number_127 ⟨Nat.zero_le _, Nat.zero_le _⟩) hh_144.1 (fun q _ h => h) (fun q h => h) (fun r_146 u_145 t_145 H_145 locs_145 ht_145 hvm_145 hr_146 hb_145 hz_145 hk_145 hS_145 => ?_)
                rw [ht_145] at hb_145
                obtain ⟨hb_1451, hb_1452, hb_1453, hb_1454, hb_1455⟩ := hb_145
                have hh_145 : jSt (dC, dI) B base G0 G0 EX4_number s.heap 0 0 [(r0, 6, 11, .int z_143), (r0, 6, 9, .ref rb), (r0, 6, 10, .int pe)] [] [] H_145 locs_145 := ((hh_144.call hb_1451 hb_1452 hb_1453 hb_1454 hS_145 rfl (L1 := [(r0, 6, 11, .int z_143), (r0, 6, 9, .ref rb), (r0, 6, 10, .int pe)]) [0, 1, 2] rfl rfl (M1 := []) [] rfl rfl (I1 := []) [] rfl rfl).more hb_1455)
                clear hh_144 ht_145 hvm_145 hz_145 hk_145 hS_145 hb_1451 hb_1452 hb_1453 hb_1454 hb_1455
                obtain ⟨hr_146_0, hr_146_1, hr_146_2⟩ := hr_146
                refine lv_bipush (v := 43) hx hb dX4_number_130 (by decide) ?_
                have C154 : ∀ (wt_147 : Int32) (H_147 : Heap) (locs_147 : List Loc), jSt (dC, dI) B base G0 G0 EX4_number s.heap 0 0 [(r0, 6, 11, .int wt_147), (r0, 6, 9, .ref rb), (r0, 6, 10, .int pe)] [] [] H_147 locs_147 → (pt.toInt ≤ wt_147.toInt ∧ wt_147.toInt ≤ pe.toInt ∧ z_143.toInt ≤ wt_147.toInt) → ∀ ls : Array Slot, lv_has ls 8 [(0, .ref r0), (1, .int 1), (2, .int wt_86), (3, .int r_88), (4, .int 0)] → W p l e R s m ([.ref r0] : List Value).toArray below meth c H_147 locs_147 0 0 Q (F0 m 154 ls []) := by
                  intro wt_147 H_147 locs_147 hh_147  hi_147 ls hl
                  obtain ⟨hi_147_0, hi_147_1, hi_147_2⟩ := hi_147
                  try clear hr_146_2
                  refine lv_aload_n hx hb dX4_number_154 rfl (lv_at hl 0 rfl) ?_
                  refine va_calli (A0 := jA base) (H0 := s.heap) (va_runV (As := []) (rest := []) ⟨hx, hb, hml, hown, hts⟩ (uX4_digits l dC dI ca base B hB hAp hB6 hB100 G0 H_147 r0 rb n_rb pe wt_147) (cwV 0 hts (jgV (jWr_23 _ (List.mem_of_getElem? (i := 1) rfl)) (jWr_23 _ (List.mem_of_getElem? (i := 2) rfl)) (jWr_23 _ (List.mem_of_getElem? (i := 3) rfl)) (jWr_1 _ (List.mem_of_getElem? (i := 22) rfl)) (jWr_23 _ (List.mem_of_getElem? (i := 4) rfl))) rfl rfl rfl (by decide +kernel) ⟨by rw [← hR]; exact Nat.le_of_ble_eq_true rfl, by rw [← hR]; exact Nat.le_of_ble_eq_true rfl⟩) ⟨fun a U g mk q => by obtain ⟨q0, q1, q2, qK, q10, q11, q12, q13⟩ := q; exact ⟨q0, q1, q2, jG.calling g mk a qK, q10, q11, q12, q13⟩, hh_147.recv (C := RX4) (T := TX4) (N := 12) hB6 rfl (by decide) hg_r0 hK, fun U hU hW => ⟨rfl, hU, hh_147.2.1, hG.step hW hU hh_147.1, hg_r0, hg_rb, (hh_147.2.2.1.sub (L1 := [(r0, 6, 9, .ref rb), (r0, 6, 10, .int pe), (r0, 6, 11, .int wt_147)]) [1, 2, 0] rfl), by first | omega | (refine ⟨?_, ?_, ?_, ?_, ?_, ?_⟩ <;> (first | omega | rfl | assumption | decide | exact Or.inl rfl | exact Or.inr rfl | (simp only; omega)))⟩⟩ rfl rfl hl.1 rfl (lv_room (Nat.le_of_ble_eq_true rfl)) dX4_number_155 ⟨Nat.zero_le _, Nat.zero_le _⟩) hh_147.1 (fun q _ h => h) (fun q h => h) (fun r_149 u_148 t_148 H_148 locs_148 ht_148 hvm_148 hr_149 hb_148 hz_148 hk_148 hS_148 => ?_)
                  obtain ⟨qt_148, rfl⟩ : ∃ z, z = u_148 := ⟨_, rfl⟩
                  rw [ht_148] at hb_148
                  obtain ⟨hb_1481, hb_1482, hb_1483, hb_1484, hb_1485⟩ := hb_148
                  have hh_148 : jSt (dC, dI) B base G0 G0 EX4_number s.heap 0 0 [(r0, 6, 11, .int qt_148), (r0, 6, 9, .ref rb), (r0, 6, 10, .int pe)] [] [] H_148 locs_148 := ((hh_147.call hb_1481 hb_1482 hb_1483 hb_1484 hS_148 rfl (L1 := [(r0, 6, 9, .ref rb), (r0, 6, 10, .int pe)]) [1, 2] rfl rfl (M1 := []) [] rfl rfl (I1 := []) [] rfl rfl).more hb_1485)
                  clear hh_147 ht_148 hvm_148 hz_148 hk_148 hS_148 hb_1481 hb_1482 hb_1483 hb_1484 hb_1485
                  obtain ⟨hr_149_0, hr_149_1, hr_149_2⟩ := hr_149
                  refine lv_if_ne (tgt := 163) hx hb dX4_number_158 (by decide) (fun c_150 => ?_) (fun c_150 => ?_)
                  · skip
                    have c_150' : r_149.toInt ≠ 0 := jb_ne (rfl) ((by decide)) c_150
                    exact C163 0 qt_148 _ _ hh_148 (Or.inl rfl) (by first | omega | (refine ⟨?_, ?_, ?_⟩ <;> (first | omega | rfl | assumption | decide | exact Or.inl rfl | exact Or.inr rfl | (simp only; omega)))) _ (lv_sub hl [0, 1, 2, 3, 4] rfl)
                  · skip
                    have c_150' : r_149.toInt = 0 := jb_ne_n (rfl) ((by decide)) c_150
                    refine lv_iconst (v := (-1)) hx hb dX4_number_161 (by decide) ?_
                    rw [hQ]
                    exact W.iret (v := (-1)) hx hb hr (fun t ht hW => ⟨⟨(-1), qt_148, rfl, by first | omega | (refine ⟨?_, ?_, ?_, ?_⟩ <;> (first | omega | rfl | assumption | decide | exact Or.inl rfl | exact Or.inr rfl | (simp only; omega))), hh_148.rt (M1 := [(r0, 6, 11, .int qt_148)]) [0] rfl ht⟩, by rw [ht]; try exact hh_148.1.1, fun q h9 hq => by rw [ht]; try exact hh_148.1.2.1 q h9 hq⟩) hh_148.1.2.2 dX4_number_162
                refine lv_icmp_eq (tgt := 144) hx hb dX4_number_132 (by decide) (fun c_151 => ?_) (fun c_151 => ?_)
                · skip
                  have c_151' : r_146.toInt = 43 := jb_eq (rfl) ((by decide)) c_151
                  first | (have hr_146_2q := hr_146_2.resolve_left (by omega); clear hr_146_2) | (have hr_146_2q := hr_146_2.resolve_right (by omega); clear hr_146_2) | try clear hr_146_2
                  refine lv_aload_n hx hb dX4_number_144 rfl (lv_at hl 1 rfl) ?_
                  refine lv_dup hx hb dX4_number_145 rfl ?_
                  refine j7_read hx hb hown hK (C := RX4) (T := TX4) (N := 12) rfl hly_6_11 hlk_47 (hh_145.at 0 rfl) dX4_number_146 ?_
                  refine lv_iconst (v := 1) hx hb dX4_number_149 (by decide) ?_
                  refine lv_iadd hx hb dX4_number_150 ?_
                  refine lv_topi (fun z_152 ez_152 => ?_)
                  have hz_152 : z_152.toInt = z_143.toInt + 1 := by rw [ez_152]; exact jb_iadd2 (rfl) ((by decide)) (by omega)
                  refine j7_put hx hb hown hK hh_145 hB hAp hB6 (C := RX4) (T := TX4) (N := 12) rfl (by decide) hg_r0 (i := 11) (by decide) hly_6_11 rfl hlk_47 rfl (ty := .int) (v := .int z_152) (by decide +kernel) rfl rfl (⟨_, rfl, by omega, by omega⟩) rfl (L1 := [(r0, 6, 9, .ref rb), (r0, 6, 10, .int pe)]) [1, 2] rfl rfl rfl dX4_number_151 (fun H_153 locs_153 hh_153 => ?_)
                  clear hh_145
                  exact C154 z_152 _ _ hh_153 (by first | omega | (refine ⟨?_, ?_, ?_⟩ <;> (first | omega | rfl | assumption | decide | exact Or.inl rfl | exact Or.inr rfl | (simp only; omega)))) _ (lv_sub hl [1, 2, 3, 4, 0] rfl)
                · skip
                  have c_151' : r_146.toInt ≠ 43 := jb_eq_n (rfl) ((by decide)) c_151
                  try clear hr_146_2
                  refine lv_aload_n hx hb dX4_number_135 rfl (lv_at hl 1 rfl) ?_
                  refine va_calli (A0 := jA base) (H0 := s.heap) (va_runV (As := []) (rest := []) ⟨hx, hb, hml, hown, hts⟩ (uX4_peek l dC dI ca base B hB hAp hB6 hB100 G0 H_145 r0 rb n_rb pe z_143) (cwV 0 hts (jgV (jWr_19 _ (List.mem_of_getElem? (i := 19) rfl)) (jWr_19 _ (List.mem_of_getElem? (i := 20) rfl)) (jWr_19 _ (List.mem_of_getElem? (i := 21) rfl)) (jWr_1 _ (List.mem_of_getElem? (i := 22) rfl)) (jWr_19 _ (List.mem_of_getElem? (i := 22) rfl))) rfl rfl rfl (by decide +kernel) ⟨by rw [← hR]; exact Nat.le_of_ble_eq_true rfl, by rw [← hR]; exact Nat.le_of_ble_eq_true rfl⟩) ⟨fun a U g mk q => by obtain ⟨q0, q1, q2, qK, q10, q11, q12, q13⟩ := q; exact ⟨q0, q1, q2, jG.calling g mk a qK, q10, q11, q12, q13⟩, hh_145.recv (C := RX4) (T := TX4) (N := 12) hB6 rfl (by decide) hg_r0 hK, fun U hU hW => ⟨rfl, hU, hh_145.2.1, hG.step hW hU hh_145.1, hg_r0, hg_rb, (hh_145.2.2.1.sub (L1 := [(r0, 6, 9, .ref rb), (r0, 6, 10, .int pe), (r0, 6, 11, .int z_143)]) [1, 2, 0] rfl), by first | omega | (refine ⟨?_, ?_, ?_, ?_, ?_⟩ <;> (first | omega | rfl | assumption | decide | exact Or.inl rfl | exact Or.inr rfl | (simp only; omega)))⟩⟩ rfl rfl hl.1 rfl (lv_room (Nat.le_of_ble_eq_true rfl)) dX4_number_136 ⟨Nat.zero_le _, Nat.zero_le _⟩) hh_145.1 (fun q _ h => h) (fun q h => h) (fun r_155 u_154 t_154 H_154 locs_154 ht_154 hvm_154 hr_155 hb_154 hz_154 hk_154 hS_154 => ?_)
                  rw [ht_154] at hb_154
                  obtain ⟨hb_1541, hb_1542, hb_1543, hb_1544, hb_1545⟩ := hb_154
                  have hh_154 : jSt (dC, dI) B base G0 G0 EX4_number s.heap 0 0 [(r0, 6, 11, .int z_143), (r0, 6, 9, .ref rb), (r0, 6, 10, .int pe)] [] [] H_154 locs_154 := ((hh_145.call hb_1541 hb_1542 hb_1543 hb_1544 hS_154 rfl (L1 := [(r0, 6, 11, .int z_143), (r0, 6, 9, .ref rb), (r0, 6, 10, .int pe)]) [0, 1, 2] rfl rfl (M1 := []) [] rfl rfl (I1 := []) [] rfl rfl).more hb_1545)
                  clear hh_145 ht_154 hvm_154 hz_154 hk_154 hS_154 hb_1541 hb_1542 hb_1543 hb_1544 hb_1545
                  obtain ⟨hr_155_0, hr_155_1, hr_155_2⟩ := hr_155
                  refine lv_bipush (v := 45) hx hb dX4_number_139 (by decide) ?_
                  refine lv_icmp_ne (tgt := 154) hx hb dX4_number_141 (by decide) (fun c_156 => ?_) (fun c_156 => ?_)
                  · skip
                    have c_156' : r_155.toInt ≠ 45 := jb_ne (rfl) ((by decide)) c_156
                    try clear hr_155_2
                    exact C154 z_143 _ _ hh_154 (by first | omega | (refine ⟨?_, ?_, ?_⟩ <;> (first | omega | rfl | assumption | decide | exact Or.inl rfl | exact Or.inr rfl | (simp only; omega)))) _ (lv_sub hl [1, 2, 3, 4, 0] rfl)
                  · skip
                    have c_156' : r_155.toInt = 45 := jb_ne_n (rfl) ((by decide)) c_156
                    first | (have hr_155_2q := hr_155_2.resolve_left (by omega); clear hr_155_2) | (have hr_155_2q := hr_155_2.resolve_right (by omega); clear hr_155_2) | try clear hr_155_2
                    refine lv_aload_n hx hb dX4_number_144 rfl (lv_at hl 1 rfl) ?_
                    refine lv_dup hx hb dX4_number_145 rfl ?_
                    refine j7_read hx hb hown hK (C := RX4) (T := TX4) (N := 12) rfl hly_6_11 hlk_47 (hh_154.at 0 rfl) dX4_number_146 ?_
                    refine lv_iconst (v := 1) hx hb dX4_number_149 (by decide) ?_
                    refine lv_iadd hx hb dX4_number_150 ?_
                    refine lv_topi (fun z_157 ez_157 => ?_)
                    have hz_157 : z_157.toInt = z_143.toInt + 1 := by rw [ez_157]; exact jb_iadd2 (rfl) ((by decide)) (by omega)
                    refine j7_put hx hb hown hK hh_154 hB hAp hB6 (C := RX4) (T := TX4) (N := 12) rfl (by decide) hg_r0 (i := 11) (by decide) hly_6_11 rfl hlk_47 rfl (ty := .int) (v := .int z_157) (by decide +kernel) rfl rfl (⟨_, rfl, by omega, by omega⟩) rfl (L1 := [(r0, 6, 9, .ref rb), (r0, 6, 10, .int pe)]) [1, 2] rfl rfl rfl dX4_number_151 (fun H_158 locs_158 hh_158 => ?_)
                    clear hh_154
                    exact C154 z_157 _ _ hh_158 (by first | omega | (refine ⟨?_, ?_, ?_⟩ <;> (first | omega | rfl | assumption | decide | exact Or.inl rfl | exact Or.inr rfl | (simp only; omega)))) _ (lv_sub hl [1, 2, 3, 4, 0] rfl)
          refine lv_icmp_ne (tgt := 95) hx hb dX4_number_70 (by decide) (fun c_159 => ?_) (fun c_159 => ?_)
          · skip
            have c_159' : r_92.toInt ≠ 46 := jb_ne (rfl) ((by decide)) c_159
            try clear hr_92_2
            exact C95 1 qt_87 _ _ hh_91 (Or.inr rfl) (by first | omega | (refine ⟨?_, ?_, ?_⟩ <;> (first | omega | rfl | assumption | decide | exact Or.inl rfl | exact Or.inr rfl | (simp only; omega)))) _ (lv_sub hl [1, 2, 3, 4, 0] rfl)
          · skip
            have c_159' : r_92.toInt = 46 := jb_ne_n (rfl) ((by decide)) c_159
            first | (have hr_92_2q := hr_92_2.resolve_left (by omega); clear hr_92_2) | (have hr_92_2q := hr_92_2.resolve_right (by omega); clear hr_92_2) | try clear hr_92_2
            refine lv_iconst (v := 0) hx hb dX4_number_73 (by decide) ?_
            refine lv_istore (lv' := [(4, .int 0), (0, .ref r0), (1, .int 1), (2, .int wt_86), (3, .int r_88)]) hx hb dX4_number_74 hl (by decide) rfl (fun ls hl => ?_)
            refine lv_aload_n hx hb dX4_number_76 rfl (lv_at hl 1 rfl) ?_
            refine lv_dup hx hb dX4_number_77 rfl ?_
            refine j7_read hx hb hown hK (C := RX4) (T := TX4) (N := 12) rfl hly_6_11 hlk_47 (hh_91.at 0 rfl) dX4_number_78 ?_
            refine lv_iconst (v := 1) hx hb dX4_number_81 (by decide) ?_
            refine lv_iadd hx hb dX4_number_82 ?_
            refine lv_topi (fun z_160 ez_160 => ?_)
            have hz_160 : z_160.toInt = qt_87.toInt + 1 := by rw [ez_160]; exact jb_iadd2 (rfl) ((by decide)) (by omega)
            refine j7_put hx hb hown hK hh_91 hB hAp hB6 (C := RX4) (T := TX4) (N := 12) rfl (by decide) hg_r0 (i := 11) (by decide) hly_6_11 rfl hlk_47 rfl (ty := .int) (v := .int z_160) (by decide +kernel) rfl rfl (⟨_, rfl, by omega, by omega⟩) rfl (L1 := [(r0, 6, 9, .ref rb), (r0, 6, 10, .int pe)]) [1, 2] rfl rfl rfl dX4_number_83 (fun H_161 locs_161 hh_161 => ?_)
            clear hh_91
            refine lv_aload_n hx hb dX4_number_86 rfl (lv_at hl 1 rfl) ?_
            refine va_calli (A0 := jA base) (H0 := s.heap) (va_runV (As := []) (rest := []) ⟨hx, hb, hml, hown, hts⟩ (uX4_digits l dC dI ca base B hB hAp hB6 hB100 G0 H_161 r0 rb n_rb pe z_160) (cwV 0 hts (jgV (jWr_23 _ (List.mem_of_getElem? (i := 1) rfl)) (jWr_23 _ (List.mem_of_getElem? (i := 2) rfl)) (jWr_23 _ (List.mem_of_getElem? (i := 3) rfl)) (jWr_1 _ (List.mem_of_getElem? (i := 22) rfl)) (jWr_23 _ (List.mem_of_getElem? (i := 4) rfl))) rfl rfl rfl (by decide +kernel) ⟨by rw [← hR]; exact Nat.le_of_ble_eq_true rfl, by rw [← hR]; exact Nat.le_of_ble_eq_true rfl⟩) ⟨fun a U g mk q => by obtain ⟨q0, q1, q2, qK, q10, q11, q12, q13⟩ := q; exact ⟨q0, q1, q2, jG.calling g mk a qK, q10, q11, q12, q13⟩, hh_161.recv (C := RX4) (T := TX4) (N := 12) hB6 rfl (by decide) hg_r0 hK, fun U hU hW => ⟨rfl, hU, hh_161.2.1, hG.step hW hU hh_161.1, hg_r0, hg_rb, (hh_161.2.2.1.sub (L1 := [(r0, 6, 9, .ref rb), (r0, 6, 10, .int pe), (r0, 6, 11, .int z_160)]) [1, 2, 0] rfl), by first | omega | (refine ⟨?_, ?_, ?_, ?_, ?_, ?_⟩ <;> (first | omega | rfl | assumption | decide | exact Or.inl rfl | exact Or.inr rfl | (simp only; omega)))⟩⟩ rfl rfl hl.1 rfl (lv_room (Nat.le_of_ble_eq_true rfl)) dX4_number_87 ⟨Nat.zero_le _, Nat.zero_le _⟩) hh_161.1 (fun q _ h => h) (fun q h => h) (fun r_163 u_162 t_162 H_162 locs_162 ht_162 hvm_162 hr_163 hb_162 hz_162 hk_162 hS_162 => ?_)
            obtain ⟨qt_162, rfl⟩ : ∃ z, z = u_162 := ⟨_, rfl⟩
            rw [ht_162] at hb_162
            obtain ⟨hb_1621, hb_1622, hb_1623, hb_1624, hb_1625⟩ := hb_162
            have hh_162 : jSt (dC, dI) B base G0 G0 EX4_number s.heap 0 0 [(r0, 6, 11, .int qt_162), (r0, 6, 9, .ref rb), (r0, 6, 10, .int pe)] [] [] H_162 locs_162 := ((hh_161.call hb_1621 hb_1622 hb_1623 hb_1624 hS_162 rfl (L1 := [(r0, 6, 9, .ref rb), (r0, 6, 10, .int pe)]) [1, 2] rfl rfl (M1 := []) [] rfl rfl (I1 := []) [] rfl rfl).more hb_1625)
            clear hh_161 ht_162 hvm_162 hz_162 hk_162 hS_162 hb_1621 hb_1622 hb_1623 hb_1624 hb_1625
            obtain ⟨hr_163_0, hr_163_1, hr_163_2⟩ := hr_163
            refine lv_if_ne (tgt := 95) hx hb dX4_number_90 (by decide) (fun c_164 => ?_) (fun c_164 => ?_)
            · skip
              have c_164' : r_163.toInt ≠ 0 := jb_ne (rfl) ((by decide)) c_164
              exact C95 0 qt_162 _ _ hh_162 (Or.inl rfl) (by first | omega | (refine ⟨?_, ?_, ?_⟩ <;> (first | omega | rfl | assumption | decide | exact Or.inl rfl | exact Or.inr rfl | (simp only; omega)))) _ (lv_sub hl [1, 2, 3, 4, 0] rfl)
            · skip
              have c_164' : r_163.toInt = 0 := jb_ne_n (rfl) ((by decide)) c_164
              refine lv_iconst (v := (-1)) hx hb dX4_number_93 (by decide) ?_
              rw [hQ]
              exact W.iret (v := (-1)) hx hb hr (fun t ht hW => ⟨⟨(-1), qt_162, rfl, by first | omega | (refine ⟨?_, ?_, ?_, ?_⟩ <;> (first | omega | rfl | assumption | decide | exact Or.inl rfl | exact Or.inr rfl | (simp only; omega))), hh_162.rt (M1 := [(r0, 6, 11, .int qt_162)]) [0] rfl ht⟩, by rw [ht]; try exact hh_162.1.1, fun q h9 hq => by rw [ht]; try exact hh_162.1.2.1 q h9 hq⟩) hh_162.1.2.2 dX4_number_94
        refine lv_icmp_le (tgt := 61) hx hb dX4_number_45 (by decide) (fun c_165 => ?_) (fun c_165 => ?_)
        · skip
          have c_165' : r_88.toInt ≤ 1 := jb_le (rfl) ((by decide)) c_165
          exact C61  _ _ hh_87 (trivial) _ (lv_sub hl [2, 3, 1, 0] rfl)
        · skip
          have c_165' : r_88.toInt > 1 := jb_le_n (rfl) ((by decide)) c_165
          refine lv_aload_n hx hb dX4_number_48 rfl (lv_at hl 2 rfl) ?_
          refine j7_read hx hb hown hK (C := RX4) (T := TX4) (N := 12) rfl hly_6_9 hlk_33 (hh_87.at 1 rfl) dX4_number_49 ?_
          refine lv_iload_n hx hb dX4_number_52 rfl (lv_at hl 1 rfl) ?_
          refine j7_bald hx hb hK hh_87 hB100 0 rfl (by decide) hg_rb (x := wt_86.toInt) (rfl) (by omega) dX4_number_53 (fun z_166 (hz_166 : True) => ?_)
          refine lv_bipush (v := 48) hx hb dX4_number_54 (by decide) ?_
          refine lv_icmp_ne (tgt := 61) hx hb dX4_number_56 (by decide) (fun c_167 => ?_) (fun c_167 => ?_)
          · skip
            have c_167' : z_166.toInt ≠ 48 := jb_ne (rfl) ((by decide)) c_167
            exact C61  _ _ hh_87 (trivial) _ (lv_sub hl [2, 3, 1, 0] rfl)
          · skip
            have c_167' : z_166.toInt = 48 := jb_ne_n (rfl) ((by decide)) c_167
            refine lv_iconst (v := (-1)) hx hb dX4_number_59 (by decide) ?_
            rw [hQ]
            exact W.iret (v := (-1)) hx hb hr (fun t ht hW => ⟨⟨(-1), qt_87, rfl, by first | omega | (refine ⟨?_, ?_, ?_, ?_⟩ <;> (first | omega | rfl | assumption | decide | exact Or.inl rfl | exact Or.inr rfl | (simp only; omega))), hh_87.rt (M1 := [(r0, 6, 11, .int qt_87)]) [0] rfl ht⟩, by rw [ht]; try exact hh_87.1.1, fun q h9 hq => by rw [ht]; try exact hh_87.1.2.1 q h9 hq⟩) hh_87.1.2.2 dX4_number_60
    refine lv_if_eq (tgt := 29) hx hb dX4_number_16 (by decide) (fun c_168 => ?_) (fun c_168 => ?_)
    · skip
      exact absurd c_168 (by decide)
    · skip
      refine lv_aload_n hx hb dX4_number_19 rfl (lv_at hl 1 rfl) ?_
      refine lv_dup hx hb dX4_number_20 rfl ?_
      refine j7_read hx hb hown hK (C := RX4) (T := TX4) (N := 12) rfl hly_6_11 hlk_47 (hh_1.at 2 rfl) dX4_number_21 ?_
      refine lv_iconst (v := 1) hx hb dX4_number_24 (by decide) ?_
      refine lv_iadd hx hb dX4_number_25 ?_
      refine lv_topi (fun z_169 ez_169 => ?_)
      have hz_169 : z_169.toInt = pt.toInt + 1 := by rw [ez_169]; exact jb_iadd2 (rfl) ((by decide)) (by omega)
      refine j7_put hx hb hown hK hh_1 hB hAp hB6 (C := RX4) (T := TX4) (N := 12) rfl (by decide) hg_r0 (i := 11) (by decide) hly_6_11 rfl hlk_47 rfl (ty := .int) (v := .int z_169) (by decide +kernel) rfl rfl (⟨_, rfl, by omega, by omega⟩) rfl (L1 := [(r0, 6, 9, .ref rb), (r0, 6, 10, .int pe)]) [0, 1] rfl rfl rfl dX4_number_26 (fun H_170 locs_170 hh_170 => ?_)
      clear hh_1
      exact C29 z_169 _ _ hh_170 (by first | omega | (refine ⟨?_, ?_⟩ <;> (first | omega | rfl | assumption | decide | exact Or.inl rfl | exact Or.inr rfl | (simp only; omega)))) _ (lv_sub hl [1, 0] rfl)
