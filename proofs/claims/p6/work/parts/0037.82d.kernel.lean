section
theorem dX13_cases_0 : decode cX13_cases 0 = .ok (.aload_n 0, 1) := by decide +kernel
theorem dX13_cases_1 : decode cX13_cases 1 = .ok (.getfield 68, 3) := by decide +kernel
theorem dX13_cases_4 : decode cX13_cases 4 = .ok (.iload_n 1, 1) := by decide +kernel
theorem dX13_cases_5 : decode cX13_cases 5 = .ok (.iaload, 1) := by decide +kernel
theorem dX13_cases_6 : decode cX13_cases 6 = .ok (.istore_n 2, 1) := by decide +kernel
theorem dX13_cases_7 : decode cX13_cases 7 = .ok (.aload_n 0, 1) := by decide +kernel
theorem dX13_cases_8 : decode cX13_cases 8 = .ok (.getfield 12, 3) := by decide +kernel
theorem dX13_cases_11 : decode cX13_cases 11 = .ok (.iload_n 2, 1) := by decide +kernel
theorem dX13_cases_12 : decode cX13_cases 12 = .ok (.iaload, 1) := by decide +kernel
theorem dX13_cases_13 : decode cX13_cases 13 = .ok (.istore_n 3, 1) := by decide +kernel
theorem dX13_cases_14 : decode cX13_cases 14 = .ok (.iload_n 3, 1) := by decide +kernel
theorem dX13_cases_15 : decode cX13_cases 15 = .ok (.iconst 1, 1) := by decide +kernel
theorem dX13_cases_16 : decode cX13_cases 16 = .ok (.if_icmp .ne 67, 3) := by decide +kernel
theorem dX13_cases_19 : decode cX13_cases 19 = .ok (.aload_n 0, 1) := by decide +kernel
theorem dX13_cases_20 : decode cX13_cases 20 = .ok (.getfield 62, 3) := by decide +kernel
theorem dX13_cases_23 : decode cX13_cases 23 = .ok (.iconst 0, 1) := by decide +kernel
theorem dX13_cases_24 : decode cX13_cases 24 = .ok (.iaload, 1) := by decide +kernel
theorem dX13_cases_25 : decode cX13_cases 25 = .ok (.bipush 8, 2) := by decide +kernel
theorem dX13_cases_27 : decode cX13_cases 27 = .ok (.if_icmp .ne 9, 3) := by decide +kernel
theorem dX13_cases_30 : decode cX13_cases 30 = .ok (.aload_n 0, 1) := by decide +kernel
theorem dX13_cases_31 : decode cX13_cases 31 = .ok (.bipush 9, 2) := by decide +kernel
theorem dX13_cases_33 : decode cX13_cases 33 = .ok (.invokevirtual 236, 3) := by decide +kernel
theorem dX13_cases_36 : decode cX13_cases 36 = .ok (.aload_n 0, 1) := by decide +kernel
theorem dX13_cases_37 : decode cX13_cases 37 = .ok (.getfield 221, 3) := by decide +kernel
theorem dX13_cases_40 : decode cX13_cases 40 = .ok (.ifCond .le 4, 3) := by decide +kernel
theorem dX13_cases_43 : decode cX13_cases 43 = .ok (.return_, 1) := by decide +kernel
theorem dX13_cases_44 : decode cX13_cases 44 = .ok (.aload_n 0, 1) := by decide +kernel
theorem dX13_cases_45 : decode cX13_cases 45 = .ok (.iconst 0, 1) := by decide +kernel
theorem dX13_cases_46 : decode cX13_cases 46 = .ok (.iload_n 1, 1) := by decide +kernel
theorem dX13_cases_47 : decode cX13_cases 47 = .ok (.invokevirtual 372, 3) := by decide +kernel
theorem dX13_cases_50 : decode cX13_cases 50 = .ok (.aload_n 0, 1) := by decide +kernel
theorem dX13_cases_51 : decode cX13_cases 51 = .ok (.iconst 0, 1) := by decide +kernel
theorem dX13_cases_52 : decode cX13_cases 52 = .ok (.aload_n 0, 1) := by decide +kernel
theorem dX13_cases_53 : decode cX13_cases 53 = .ok (.getfield 303, 3) := by decide +kernel
theorem dX13_cases_56 : decode cX13_cases 56 = .ok (.aload_n 0, 1) := by decide +kernel
theorem dX13_cases_57 : decode cX13_cases 57 = .ok (.getfield 19, 3) := by decide +kernel
theorem dX13_cases_60 : decode cX13_cases 60 = .ok (.iload_n 2, 1) := by decide +kernel
theorem dX13_cases_61 : decode cX13_cases 61 = .ok (.iaload, 1) := by decide +kernel
theorem dX13_cases_62 : decode cX13_cases 62 = .ok (.invokevirtual 365, 3) := by decide +kernel
theorem dX13_cases_65 : decode cX13_cases 65 = .ok (.aload_n 0, 1) := by decide +kernel
theorem dX13_cases_66 : decode cX13_cases 66 = .ok (.iconst 0, 1) := by decide +kernel
theorem dX13_cases_67 : decode cX13_cases 67 = .ok (.aload_n 0, 1) := by decide +kernel
theorem dX13_cases_68 : decode cX13_cases 68 = .ok (.getfield 306, 3) := by decide +kernel
theorem dX13_cases_71 : decode cX13_cases 71 = .ok (.aload_n 0, 1) := by decide +kernel
theorem dX13_cases_72 : decode cX13_cases 72 = .ok (.getfield 22, 3) := by decide +kernel
theorem dX13_cases_75 : decode cX13_cases 75 = .ok (.iload_n 2, 1) := by decide +kernel
theorem dX13_cases_76 : decode cX13_cases 76 = .ok (.iaload, 1) := by decide +kernel
theorem dX13_cases_77 : decode cX13_cases 77 = .ok (.invokevirtual 365, 3) := by decide +kernel
theorem dX13_cases_80 : decode cX13_cases 80 = .ok (.goto 197, 3) := by decide +kernel
theorem dX13_cases_83 : decode cX13_cases 83 = .ok (.iload_n 3, 1) := by decide +kernel
theorem dX13_cases_84 : decode cX13_cases 84 = .ok (.iconst 2, 1) := by decide +kernel
theorem dX13_cases_85 : decode cX13_cases 85 = .ok (.if_icmp .ne 83, 3) := by decide +kernel
theorem dX13_cases_88 : decode cX13_cases 88 = .ok (.aload_n 0, 1) := by decide +kernel
theorem dX13_cases_89 : decode cX13_cases 89 = .ok (.iconst 2, 1) := by decide +kernel
theorem dX13_cases_90 : decode cX13_cases 90 = .ok (.invokevirtual 352, 3) := by decide +kernel
theorem dX13_cases_93 : decode cX13_cases 93 = .ok (.aload_n 0, 1) := by decide +kernel
theorem dX13_cases_94 : decode cX13_cases 94 = .ok (.getfield 221, 3) := by decide +kernel
theorem dX13_cases_97 : decode cX13_cases 97 = .ok (.ifCond .le 4, 3) := by decide +kernel
theorem dX13_cases_100 : decode cX13_cases 100 = .ok (.return_, 1) := by decide +kernel
theorem dX13_cases_101 : decode cX13_cases 101 = .ok (.iconst 0, 1) := by decide +kernel
theorem dX13_cases_102 : decode cX13_cases 102 = .ok (.istore 4, 2) := by decide +kernel
theorem dX13_cases_104 : decode cX13_cases 104 = .ok (.iload 4, 2) := by decide +kernel
theorem dX13_cases_106 : decode cX13_cases 106 = .ok (.iconst 2, 1) := by decide +kernel
theorem dX13_cases_107 : decode cX13_cases 107 = .ok (.if_icmp .ge 58, 3) := by decide +kernel
theorem dX13_cases_110 : decode cX13_cases 110 = .ok (.aload_n 0, 1) := by decide +kernel
theorem dX13_cases_111 : decode cX13_cases 111 = .ok (.iload 4, 2) := by decide +kernel
theorem dX13_cases_113 : decode cX13_cases 113 = .ok (.iload_n 1, 1) := by decide +kernel
theorem dX13_cases_114 : decode cX13_cases 114 = .ok (.invokevirtual 372, 3) := by decide +kernel
theorem dX13_cases_117 : decode cX13_cases 117 = .ok (.aload_n 0, 1) := by decide +kernel
theorem dX13_cases_118 : decode cX13_cases 118 = .ok (.iload 4, 2) := by decide +kernel
theorem dX13_cases_120 : decode cX13_cases 120 = .ok (.iload 4, 2) := by decide +kernel
theorem dX13_cases_122 : decode cX13_cases 122 = .ok (.ifCond .ne 10, 3) := by decide +kernel
theorem dX13_cases_125 : decode cX13_cases 125 = .ok (.aload_n 0, 1) := by decide +kernel
theorem dX13_cases_126 : decode cX13_cases 126 = .ok (.getfield 303, 3) := by decide +kernel
theorem dX13_cases_129 : decode cX13_cases 129 = .ok (.goto 7, 3) := by decide +kernel
theorem dX13_cases_132 : decode cX13_cases 132 = .ok (.aload_n 0, 1) := by decide +kernel
theorem dX13_cases_133 : decode cX13_cases 133 = .ok (.getfield 306, 3) := by decide +kernel
theorem dX13_cases_136 : decode cX13_cases 136 = .ok (.iload 4, 2) := by decide +kernel
theorem dX13_cases_138 : decode cX13_cases 138 = .ok (.ifCond .ne 12, 3) := by decide +kernel
theorem dX13_cases_141 : decode cX13_cases 141 = .ok (.aload_n 0, 1) := by decide +kernel
theorem dX13_cases_142 : decode cX13_cases 142 = .ok (.getfield 19, 3) := by decide +kernel
theorem dX13_cases_145 : decode cX13_cases 145 = .ok (.iload_n 2, 1) := by decide +kernel
theorem dX13_cases_146 : decode cX13_cases 146 = .ok (.iaload, 1) := by decide +kernel
theorem dX13_cases_147 : decode cX13_cases 147 = .ok (.goto 9, 3) := by decide +kernel
theorem dX13_cases_150 : decode cX13_cases 150 = .ok (.aload_n 0, 1) := by decide +kernel
theorem dX13_cases_151 : decode cX13_cases 151 = .ok (.getfield 22, 3) := by decide +kernel
theorem dX13_cases_154 : decode cX13_cases 154 = .ok (.iload_n 2, 1) := by decide +kernel
theorem dX13_cases_155 : decode cX13_cases 155 = .ok (.iaload, 1) := by decide +kernel
theorem dX13_cases_156 : decode cX13_cases 156 = .ok (.invokevirtual 365, 3) := by decide +kernel
theorem dX13_cases_159 : decode cX13_cases 159 = .ok (.iinc 4 1, 3) := by decide +kernel
theorem dX13_cases_162 : decode cX13_cases 162 = .ok (.goto (-58), 3) := by decide +kernel
theorem dX13_cases_165 : decode cX13_cases 165 = .ok (.goto 112, 3) := by decide +kernel
theorem dX13_cases_168 : decode cX13_cases 168 = .ok (.iload_n 3, 1) := by decide +kernel
theorem dX13_cases_169 : decode cX13_cases 169 = .ok (.iconst 5, 1) := by decide +kernel
theorem dX13_cases_170 : decode cX13_cases 170 = .ok (.if_icmp .ne 101, 3) := by decide +kernel
theorem dX13_cases_173 : decode cX13_cases 173 = .ok (.aload_n 0, 1) := by decide +kernel
theorem dX13_cases_174 : decode cX13_cases 174 = .ok (.getfield 56, 3) := by decide +kernel
theorem dX13_cases_177 : decode cX13_cases 177 = .ok (.iconst 0, 1) := by decide +kernel
theorem dX13_cases_178 : decode cX13_cases 178 = .ok (.iaload, 1) := by decide +kernel
theorem dX13_cases_179 : decode cX13_cases 179 = .ok (.bipush 6, 2) := by decide +kernel
theorem dX13_cases_181 : decode cX13_cases 181 = .ok (.if_icmp .ne 9, 3) := by decide +kernel
theorem dX13_cases_184 : decode cX13_cases 184 = .ok (.aload_n 0, 1) := by decide +kernel
theorem dX13_cases_185 : decode cX13_cases 185 = .ok (.bipush 9, 2) := by decide +kernel
theorem dX13_cases_187 : decode cX13_cases 187 = .ok (.invokevirtual 236, 3) := by decide +kernel
theorem dX13_cases_190 : decode cX13_cases 190 = .ok (.aload_n 0, 1) := by decide +kernel
theorem dX13_cases_191 : decode cX13_cases 191 = .ok (.getfield 221, 3) := by decide +kernel
theorem dX13_cases_194 : decode cX13_cases 194 = .ok (.ifCond .le 4, 3) := by decide +kernel
theorem dX13_cases_197 : decode cX13_cases 197 = .ok (.return_, 1) := by decide +kernel
theorem dX13_cases_198 : decode cX13_cases 198 = .ok (.aload_n 0, 1) := by decide +kernel
theorem dX13_cases_199 : decode cX13_cases 199 = .ok (.iload_n 2, 1) := by decide +kernel
theorem dX13_cases_200 : decode cX13_cases 200 = .ok (.aload_n 0, 1) := by decide +kernel
theorem dX13_cases_201 : decode cX13_cases 201 = .ok (.bipush 9, 2) := by decide +kernel
theorem dX13_cases_203 : decode cX13_cases 203 = .ok (.aload_n 0, 1) := by decide +kernel
theorem dX13_cases_204 : decode cX13_cases 204 = .ok (.getfield 303, 3) := by decide +kernel
theorem dX13_cases_207 : decode cX13_cases 207 = .ok (.iconst 0, 1) := by decide +kernel
theorem dX13_cases_208 : decode cX13_cases 208 = .ok (.iconst 0, 1) := by decide +kernel
theorem dX13_cases_209 : decode cX13_cases 209 = .ok (.iconst 0, 1) := by decide +kernel
theorem dX13_cases_210 : decode cX13_cases 210 = .ok (.invokevirtual 197, 3) := by decide +kernel
theorem dX13_cases_213 : decode cX13_cases 213 = .ok (.invokevirtual 369, 3) := by decide +kernel
theorem dX13_cases_216 : decode cX13_cases 216 = .ok (.istore 4, 2) := by decide +kernel
theorem dX13_cases_218 : decode cX13_cases 218 = .ok (.aload_n 0, 1) := by decide +kernel
theorem dX13_cases_219 : decode cX13_cases 219 = .ok (.getfield 221, 3) := by decide +kernel
theorem dX13_cases_222 : decode cX13_cases 222 = .ok (.ifCond .le 4, 3) := by decide +kernel
theorem dX13_cases_225 : decode cX13_cases 225 = .ok (.return_, 1) := by decide +kernel
theorem dX13_cases_226 : decode cX13_cases 226 = .ok (.aload_n 0, 1) := by decide +kernel
theorem dX13_cases_227 : decode cX13_cases 227 = .ok (.iconst 0, 1) := by decide +kernel
theorem dX13_cases_228 : decode cX13_cases 228 = .ok (.iload_n 1, 1) := by decide +kernel
theorem dX13_cases_229 : decode cX13_cases 229 = .ok (.invokevirtual 372, 3) := by decide +kernel
theorem dX13_cases_232 : decode cX13_cases 232 = .ok (.aload_n 0, 1) := by decide +kernel
theorem dX13_cases_233 : decode cX13_cases 233 = .ok (.iconst 0, 1) := by decide +kernel
theorem dX13_cases_234 : decode cX13_cases 234 = .ok (.aload_n 0, 1) := by decide +kernel
theorem dX13_cases_235 : decode cX13_cases 235 = .ok (.getfield 306, 3) := by decide +kernel
theorem dX13_cases_238 : decode cX13_cases 238 = .ok (.iload 4, 2) := by decide +kernel
theorem dX13_cases_240 : decode cX13_cases 240 = .ok (.invokevirtual 365, 3) := by decide +kernel
theorem dX13_cases_243 : decode cX13_cases 243 = .ok (.aload_n 0, 1) := by decide +kernel
theorem dX13_cases_244 : decode cX13_cases 244 = .ok (.getfield 59, 3) := by decide +kernel
theorem dX13_cases_247 : decode cX13_cases 247 = .ok (.aload_n 0, 1) := by decide +kernel
theorem dX13_cases_248 : decode cX13_cases 248 = .ok (.getfield 56, 3) := by decide +kernel
theorem dX13_cases_251 : decode cX13_cases 251 = .ok (.iconst 0, 1) := by decide +kernel
theorem dX13_cases_252 : decode cX13_cases 252 = .ok (.iaload, 1) := by decide +kernel
theorem dX13_cases_253 : decode cX13_cases 253 = .ok (.aload_n 0, 1) := by decide +kernel
theorem dX13_cases_254 : decode cX13_cases 254 = .ok (.getfield 303, 3) := by decide +kernel
theorem dX13_cases_257 : decode cX13_cases 257 = .ok (.iastore, 1) := by decide +kernel
theorem dX13_cases_258 : decode cX13_cases 258 = .ok (.aload_n 0, 1) := by decide +kernel
theorem dX13_cases_259 : decode cX13_cases 259 = .ok (.getfield 56, 3) := by decide +kernel
theorem dX13_cases_262 : decode cX13_cases 262 = .ok (.iconst 0, 1) := by decide +kernel
theorem dX13_cases_263 : decode cX13_cases 263 = .ok (.dup2, 1) := by decide +kernel
theorem dX13_cases_264 : decode cX13_cases 264 = .ok (.iaload, 1) := by decide +kernel
theorem dX13_cases_265 : decode cX13_cases 265 = .ok (.iconst 1, 1) := by decide +kernel
theorem dX13_cases_266 : decode cX13_cases 266 = .ok (.iadd, 1) := by decide +kernel
theorem dX13_cases_267 : decode cX13_cases 267 = .ok (.iastore, 1) := by decide +kernel
theorem dX13_cases_268 : decode cX13_cases 268 = .ok (.goto 9, 3) := by decide +kernel
theorem dX13_cases_271 : decode cX13_cases 271 = .ok (.aload_n 0, 1) := by decide +kernel
theorem dX13_cases_272 : decode cX13_cases 272 = .ok (.bipush 8, 2) := by decide +kernel
theorem dX13_cases_274 : decode cX13_cases 274 = .ok (.invokevirtual 236, 3) := by decide +kernel
theorem dX13_cases_277 : decode cX13_cases 277 = .ok (.return_, 1) := by decide +kernel
theorem dX13_others_0 : decode cX13_others 0 = .ok (.iload_n 1, 1) := by decide +kernel
theorem dX13_others_1 : decode cX13_others 1 = .ok (.bipush 14, 2) := by decide +kernel
theorem dX13_others_3 : decode cX13_others 3 = .ok (.if_icmp .ne 53, 3) := by decide +kernel
theorem dX13_others_6 : decode cX13_others 6 = .ok (.iload 5, 2) := by decide +kernel
theorem dX13_others_8 : decode cX13_others 8 = .ok (.iconst 5, 1) := by decide +kernel
theorem dX13_others_9 : decode cX13_others 9 = .ok (.if_icmp .eq 9, 3) := by decide +kernel
theorem dX13_others_12 : decode cX13_others 12 = .ok (.aload_n 0, 1) := by decide +kernel
theorem dX13_others_13 : decode cX13_others 13 = .ok (.bipush 8, 2) := by decide +kernel
theorem dX13_others_15 : decode cX13_others 15 = .ok (.invokevirtual 236, 3) := by decide +kernel
theorem dX13_others_18 : decode cX13_others 18 = .ok (.aload_n 0, 1) := by decide +kernel
theorem dX13_others_19 : decode cX13_others 19 = .ok (.getfield 221, 3) := by decide +kernel
theorem dX13_others_22 : decode cX13_others 22 = .ok (.ifCond .le 7, 3) := by decide +kernel
theorem dX13_others_25 : decode cX13_others 25 = .ok (.iconst 0, 1) := by decide +kernel
theorem dX13_others_26 : decode cX13_others 26 = .ok (.goto 10, 3) := by decide +kernel
theorem dX13_others_29 : decode cX13_others 29 = .ok (.aload_n 0, 1) := by decide +kernel
theorem dX13_others_30 : decode cX13_others 30 = .ok (.iload 4, 2) := by decide +kernel
theorem dX13_others_32 : decode cX13_others 32 = .ok (.iload_n 3, 1) := by decide +kernel
theorem dX13_others_33 : decode cX13_others 33 = .ok (.invokevirtual 369, 3) := by decide +kernel
theorem dX13_others_36 : decode cX13_others 36 = .ok (.istore 6, 2) := by decide +kernel
theorem dX13_others_38 : decode cX13_others 38 = .ok (.aload_n 0, 1) := by decide +kernel
theorem dX13_others_39 : decode cX13_others 39 = .ok (.getfield 221, 3) := by decide +kernel
theorem dX13_others_42 : decode cX13_others 42 = .ok (.ifCond .ne 11, 3) := by decide +kernel
theorem dX13_others_45 : decode cX13_others 45 = .ok (.aload_n 0, 1) := by decide +kernel
theorem dX13_others_46 : decode cX13_others 46 = .ok (.getfield 53, 3) := by decide +kernel
theorem dX13_others_49 : decode cX13_others 49 = .ok (.iconst 0, 1) := by decide +kernel
theorem dX13_others_50 : decode cX13_others 50 = .ok (.iload 6, 2) := by decide +kernel
theorem dX13_others_52 : decode cX13_others 52 = .ok (.iastore, 1) := by decide +kernel
theorem dX13_others_53 : decode cX13_others 53 = .ok (.goto 146, 3) := by decide +kernel
theorem dX13_others_56 : decode cX13_others 56 = .ok (.iload_n 1, 1) := by decide +kernel
theorem dX13_others_57 : decode cX13_others 57 = .ok (.bipush 15, 2) := by decide +kernel
theorem dX13_others_59 : decode cX13_others 59 = .ok (.if_icmp .ne 76, 3) := by decide +kernel
theorem dX13_others_62 : decode cX13_others 62 = .ok (.aload_n 0, 1) := by decide +kernel
theorem dX13_others_63 : decode cX13_others 63 = .ok (.getfield 12, 3) := by decide +kernel
theorem dX13_others_66 : decode cX13_others 66 = .ok (.iload_n 2, 1) := by decide +kernel
theorem dX13_others_67 : decode cX13_others 67 = .ok (.iaload, 1) := by decide +kernel
theorem dX13_others_68 : decode cX13_others 68 = .ok (.iconst 4, 1) := by decide +kernel
theorem dX13_others_69 : decode cX13_others 69 = .ok (.if_icmp .eq 9, 3) := by decide +kernel
theorem dX13_others_72 : decode cX13_others 72 = .ok (.aload_n 0, 1) := by decide +kernel
theorem dX13_others_73 : decode cX13_others 73 = .ok (.bipush 8, 2) := by decide +kernel
theorem dX13_others_75 : decode cX13_others 75 = .ok (.invokevirtual 236, 3) := by decide +kernel
theorem dX13_others_78 : decode cX13_others 78 = .ok (.aload_n 0, 1) := by decide +kernel
theorem dX13_others_79 : decode cX13_others 79 = .ok (.getfield 62, 3) := by decide +kernel
theorem dX13_others_82 : decode cX13_others 82 = .ok (.iconst 0, 1) := by decide +kernel
theorem dX13_others_83 : decode cX13_others 83 = .ok (.iaload, 1) := by decide +kernel
theorem dX13_others_84 : decode cX13_others 84 = .ok (.bipush 8, 2) := by decide +kernel
theorem dX13_others_86 : decode cX13_others 86 = .ok (.if_icmp .ne 9, 3) := by decide +kernel
theorem dX13_others_89 : decode cX13_others 89 = .ok (.aload_n 0, 1) := by decide +kernel
theorem dX13_others_90 : decode cX13_others 90 = .ok (.bipush 9, 2) := by decide +kernel
theorem dX13_others_92 : decode cX13_others 92 = .ok (.invokevirtual 236, 3) := by decide +kernel
theorem dX13_others_95 : decode cX13_others 95 = .ok (.aload_n 0, 1) := by decide +kernel
theorem dX13_others_96 : decode cX13_others 96 = .ok (.getfield 221, 3) := by decide +kernel
theorem dX13_others_99 : decode cX13_others 99 = .ok (.ifCond .le 7, 3) := by decide +kernel
theorem dX13_others_102 : decode cX13_others 102 = .ok (.iconst 0, 1) := by decide +kernel
theorem dX13_others_103 : decode cX13_others 103 = .ok (.goto 9, 3) := by decide +kernel
theorem dX13_others_106 : decode cX13_others 106 = .ok (.aload_n 0, 1) := by decide +kernel
theorem dX13_others_107 : decode cX13_others 107 = .ok (.iload_n 2, 1) := by decide +kernel
theorem dX13_others_108 : decode cX13_others 108 = .ok (.iload_n 3, 1) := by decide +kernel
theorem dX13_others_109 : decode cX13_others 109 = .ok (.invokevirtual 369, 3) := by decide +kernel
theorem dX13_others_112 : decode cX13_others 112 = .ok (.istore 6, 2) := by decide +kernel
theorem dX13_others_114 : decode cX13_others 114 = .ok (.aload_n 0, 1) := by decide +kernel
theorem dX13_others_115 : decode cX13_others 115 = .ok (.getfield 221, 3) := by decide +kernel
theorem dX13_others_118 : decode cX13_others 118 = .ok (.ifCond .ne 14, 3) := by decide +kernel
theorem dX13_others_121 : decode cX13_others 121 = .ok (.aload_n 0, 1) := by decide +kernel
theorem dX13_others_122 : decode cX13_others 122 = .ok (.iconst 0, 1) := by decide +kernel
theorem dX13_others_123 : decode cX13_others 123 = .ok (.aload_n 0, 1) := by decide +kernel
theorem dX13_others_124 : decode cX13_others 124 = .ok (.getfield 303, 3) := by decide +kernel
theorem dX13_others_127 : decode cX13_others 127 = .ok (.iload 6, 2) := by decide +kernel
theorem dX13_others_129 : decode cX13_others 129 = .ok (.invokevirtual 365, 3) := by decide +kernel
theorem dX13_others_132 : decode cX13_others 132 = .ok (.goto 67, 3) := by decide +kernel
theorem dX13_others_135 : decode cX13_others 135 = .ok (.aload_n 0, 1) := by decide +kernel
theorem dX13_others_136 : decode cX13_others 136 = .ok (.iload_n 2, 1) := by decide +kernel
theorem dX13_others_137 : decode cX13_others 137 = .ok (.invokevirtual 259, 3) := by decide +kernel
theorem dX13_others_140 : decode cX13_others 140 = .ok (.bipush 80, 2) := by decide +kernel
theorem dX13_others_142 : decode cX13_others 142 = .ok (.if_icmp .gt 14, 3) := by decide +kernel
theorem dX13_others_145 : decode cX13_others 145 = .ok (.aload_n 0, 1) := by decide +kernel
theorem dX13_others_146 : decode cX13_others 146 = .ok (.getfield 62, 3) := by decide +kernel
theorem dX13_others_149 : decode cX13_others 149 = .ok (.iconst 0, 1) := by decide +kernel
theorem dX13_others_150 : decode cX13_others 150 = .ok (.iaload, 1) := by decide +kernel
theorem dX13_others_151 : decode cX13_others 151 = .ok (.bipush 8, 2) := by decide +kernel
theorem dX13_others_153 : decode cX13_others 153 = .ok (.if_icmp .ne 9, 3) := by decide +kernel
theorem dX13_others_156 : decode cX13_others 156 = .ok (.aload_n 0, 1) := by decide +kernel
theorem dX13_others_157 : decode cX13_others 157 = .ok (.bipush 9, 2) := by decide +kernel
theorem dX13_others_159 : decode cX13_others 159 = .ok (.invokevirtual 236, 3) := by decide +kernel
theorem dX13_others_162 : decode cX13_others 162 = .ok (.aload_n 0, 1) := by decide +kernel
theorem dX13_others_163 : decode cX13_others 163 = .ok (.getfield 221, 3) := by decide +kernel
theorem dX13_others_166 : decode cX13_others 166 = .ok (.ifCond .ne 8, 3) := by decide +kernel
theorem dX13_others_169 : decode cX13_others 169 = .ok (.aload_n 0, 1) := by decide +kernel
theorem dX13_others_170 : decode cX13_others 170 = .ok (.iconst 2, 1) := by decide +kernel
theorem dX13_others_171 : decode cX13_others 171 = .ok (.invokevirtual 352, 3) := by decide +kernel
theorem dX13_others_174 : decode cX13_others 174 = .ok (.aload_n 0, 1) := by decide +kernel
theorem dX13_others_175 : decode cX13_others 175 = .ok (.getfield 221, 3) := by decide +kernel
theorem dX13_others_178 : decode cX13_others 178 = .ok (.ifCond .le 4, 3) := by decide +kernel
theorem dX13_others_181 : decode cX13_others 181 = .ok (.return_, 1) := by decide +kernel
theorem dX13_others_182 : decode cX13_others 182 = .ok (.aload_n 0, 1) := by decide +kernel
theorem dX13_others_183 : decode cX13_others 183 = .ok (.getfield 53, 3) := by decide +kernel
theorem dX13_others_186 : decode cX13_others 186 = .ok (.iconst 0, 1) := by decide +kernel
theorem dX13_others_187 : decode cX13_others 187 = .ok (.iload_n 2, 1) := by decide +kernel
theorem dX13_others_188 : decode cX13_others 188 = .ok (.iastore, 1) := by decide +kernel
theorem dX13_others_189 : decode cX13_others 189 = .ok (.aload_n 0, 1) := by decide +kernel
theorem dX13_others_190 : decode cX13_others 190 = .ok (.iconst 1, 1) := by decide +kernel
theorem dX13_others_191 : decode cX13_others 191 = .ok (.aload_n 0, 1) := by decide +kernel
theorem dX13_others_192 : decode cX13_others 192 = .ok (.getfield 291, 3) := by decide +kernel
theorem dX13_others_195 : decode cX13_others 195 = .ok (.iload_n 2, 1) := by decide +kernel
theorem dX13_others_196 : decode cX13_others 196 = .ok (.invokevirtual 365, 3) := by decide +kernel
theorem dX13_others_199 : decode cX13_others 199 = .ok (.return_, 1) := by decide +kernel
def EX13_others : List (Nat × Nat) := [(15, 5), (15, 21), (15, 34), (150, 0), (151, 0), (152, 0), (153, 0), (154, 0), (158, 0), (159, 0), (161, 0), (162, 0), (163, 0), (169, 0)]
def EX13_cases : List (Nat × Nat) := [(15, 5), (15, 21), (15, 34), (150, 0), (151, 0), (152, 0), (153, 0), (154, 0), (158, 0), (159, 0), (161, 0), (162, 0), (163, 0), (169, 0)]
set_option maxHeartbeats 4000000 in
set_option maxRecDepth 20000 in
theorem uX13_others (l : Launch) (dC : Nat → ClassId) (dI : Nat → Nat → Nat) (ca : Nat → ClassId) (base : Nat) (B : jF) (hB : jBok B) (hAp : jAp (dC, dI)) (hB15 : ∀ n G a H, B 15 n G a H ↔ jOb (dC, dI) 15 50 (F15 n G) a H) (hB150 : ∀ n G a H, B 150 n G a H ↔ jAr (dC, dI) (ca 1) (fun j z => True) n a H) (hB151 : ∀ n G a H, B 151 n G a H ↔ jAr (dC, dI) (ca 1) (fun j z => True) n a H) (hB152 : ∀ n G a H, B 152 n G a H ↔ jAr (dC, dI) (ca 1) (fun j z => True) n a H) (hB153 : ∀ n G a H, B 153 n G a H ↔ jAr (dC, dI) (ca 1) (fun j z => True) n a H) (hB154 : ∀ n G a H, B 154 n G a H ↔ jAr (dC, dI) (ca 1) (fun j z => True) n a H) (hB158 : ∀ n G a H, B 158 n G a H ↔ jAr (dC, dI) (ca 1) (fun j z => 0 ≤ z.toInt ∧ z.toInt ≤ 6) n a H) (hB159 : ∀ n G a H, B 159 n G a H ↔ jAr (dC, dI) (ca 1) (fun j z => 0 ≤ z.toInt ∧ z.toInt ≤ 8) n a H) (hB161 : ∀ n G a H, B 161 n G a H ↔ jAr (dC, dI) (ca 1) (fun j z => 0 ≤ z.toInt ∧ z.toInt ≤ 119999) n a H) (hB162 : ∀ n G a H, B 162 n G a H ↔ jAr (dC, dI) (ca 1) (fun j z => 0 ≤ z.toInt ∧ z.toInt ≤ 119999) n a H) (hB163 : ∀ n G a H, B 163 n G a H ↔ jAr (dC, dI) (ca 1) (fun j z => 0 ≤ z.toInt ∧ z.toInt ≤ 1599) n a H) (hB165 : ∀ n G a H, B 165 n G a H ↔ jAr (dC, dI) (ca 1) (fun j z => 0 ≤ z.toInt ∧ z.toInt ≤ 3) n a H) (hB169 : ∀ n G a H, B 169 n G a H ↔ jAr (dC, dI) (ca 1) (fun j z => True) n a H) (G0 : jT) (H0 : Heap) (r0 : Nat) (a1 : Int32) (a2 : Int32) (a3 : Int32) (a4 : Int32) (a5 : Int32) (pn : Int32) (pu : Int32) (py : Int32) (pg : Int32) (zg : Nat) (zh : Nat) (zp : Nat) (zs : Nat) (zn : Nat) (za : Nat) (zb : Nat) (zc : Nat) (zy : Nat) (fg : Nat → Int32) (fh : Nat → Int32) (fp : Nat → Int32) (C : jK) : Met l yX13_others (jw yX13_others cX13_others 7 none) ({ frames := 1692, cells := 0, slots := 0, locals := 70849 }) (va_Pc [.ref r0, .int a1, .int a2, .int a3, .int a4, .int a5] (fun U => U.heap = H0 ∧ jX B base G0 [] H0 ∧ jG dC dI ca base U ∧ G0 r0 = some (15, 0) ∧ G0 zg = some (161, 46) ∧ G0 zh = some (159, 46) ∧ G0 zp = some (162, 368) ∧ G0 zs = some (150, 120000) ∧ G0 zn = some (151, 120000) ∧ G0 za = some (152, 120000) ∧ G0 zb = some (153, 120000) ∧ G0 zc = some (154, 120000) ∧ G0 zy = some (165, 16) ∧ jP (dC, dI) G0 H0 [(r0, 15, 5, .int pn), (r0, 15, 34, .int pu), (r0, 15, 11, .int py), (r0, 15, 21, .int pg), (r0, 15, 22, .ref zg), (r0, 15, 25, .ref zh), (r0, 15, 27, .ref zp), (r0, 15, 0, .ref zs), (r0, 15, 1, .ref zn), (r0, 15, 2, .ref za), (r0, 15, 3, .ref zb), (r0, 15, 4, .ref zc), (r0, 15, 14, .ref zy)] ∧ jMc (dC, dI) G0 H0 [(zg, 161, 46, ca 1, fg), (zh, 159, 46, ca 1, fh), (zp, 162, 368, ca 1, fp), (zs, 150, 120000, ca 1, C.s), (zn, 151, 120000, ca 1, C.n), (za, 152, 120000, ca 1, C.a), (zb, 153, 120000, ca 1, C.b), (zc, 154, 120000, ca 1, C.c), (zy, 165, 16, ca 1, C.y)] ∧ jGl (jG1 C pn.toInt py.toInt) fg fh fp pg.toInt ∧ 1 ≤ pg.toInt ∧ pg.toInt ≤ 6 ∧ pu.toInt = 0 ∧ 0 ≤ pn.toInt ∧ pn.toInt ≤ 119000 ∧ 0 ≤ py.toInt ∧ py.toInt ≤ 16 ∧ a4.toInt = jSo fg 0 ∧ a5.toInt = jSo C.s a4.toInt ∧ (a1.toInt = 14 ∨ a1.toInt = 15 → jFm C pn.toInt py.toInt 1600 0 a3.toInt ∧ jsz C a3.toInt ≤ 5000) ∧ (a1.toInt = 15 → jG1 C pn.toInt py.toInt a2.toInt) ∧ (a1.toInt ≠ 14 → a1.toInt ≠ 15 → jFm C pn.toInt py.toInt 1600 0 a2.toInt ∧ jsz C a2.toInt ≤ 1000000))) (va_Qv (S := Int32 × Int32 × Int32 × (Nat → Int32) × (Nat → Int32) × (Nat → Int32) × jK) (fun u => pn.toInt ≤ u.1.toInt ∧ u.1.toInt ≤ pn.toInt + 90 ∧ 0 ≤ u.2.1.toInt ∧ u.2.1.toInt ≤ 9 ∧ 0 ≤ u.2.2.1.toInt ∧ u.2.2.1.toInt ≤ 6 ∧ jAgK C u.2.2.2.2.2.2 pn.toInt ∧ jGl (jG1 u.2.2.2.2.2.2 u.1.toInt py.toInt) u.2.2.2.1 u.2.2.2.2.1 u.2.2.2.2.2.1 u.2.2.1.toInt) (fun u t => jRt (dC, dI) B base G0 EX13_others H0 [(r0, 15, 5, .int u.1), (r0, 15, 34, .int u.2.1), (r0, 15, 21, .int u.2.2.1)] t.heap ∧ jMc (dC, dI) G0 t.heap [(zg, 161, 46, ca 1, u.2.2.2.1), (zh, 159, 46, ca 1, u.2.2.2.2.1), (zp, 162, 368, ca 1, u.2.2.2.2.2.1), (zs, 150, 120000, ca 1, u.2.2.2.2.2.2.s), (zn, 151, 120000, ca 1, u.2.2.2.2.2.2.n), (za, 152, 120000, ca 1, u.2.2.2.2.2.2.a), (zb, 153, 120000, ca 1, u.2.2.2.2.2.2.b), (zc, 154, 120000, ca 1, u.2.2.2.2.2.2.c), (zy, 165, 16, ca 1, u.2.2.2.2.2.2.y)]) (jA base)) 0 0 (jA base) := by
  refine Met.ofW (cc := cX13_others) (maxL := 7) (ret := none) (by decide) rfl ?_
  intro p e s m args below meth c s₁ Bd hml hv
  obtain ⟨rfl, hH0, hX, hG, hg_r0, hg_zg, hg_zh, hg_zp, hg_zs, hg_zn, hg_za, hg_zb, hg_zc, hg_zy, hP0, hM0, hp0, hp1, hp2, hp3, hp4, hp5, hp6, hp7, hp8, hp9, hp10, hp11, hp12⟩ := hv
  have hK := hG.1
  have hx := Bd.exec
  have hb := Bd.bytes
  have hr := Bd.returns
  have hts := atoms_spec (ws := (jw yX13_others cX13_others 7 none)) Bd.pre
  have htw : ∀ w ∈ jWl, w.before _ s = true := fun w h => hts w (List.mem_cons_of_mem _ h)
  have hown : s.vm.findClass RX13 = some m.cls := findClass_of_methodNamed Bd.named
  have hlocks := Bd.notSynchronized
  obtain ⟨Q, hQ⟩ : ∃ Q, Q = MQ below (va_Qv (S := Int32 × Int32 × Int32 × (Nat → Int32) × (Nat → Int32) × (Nat → Int32) × jK) (fun u => pn.toInt ≤ u.1.toInt ∧ u.1.toInt ≤ pn.toInt + 90 ∧ 0 ≤ u.2.1.toInt ∧ u.2.1.toInt ≤ 9 ∧ 0 ≤ u.2.2.1.toInt ∧ u.2.2.1.toInt ≤ 6 ∧ jAgK C u.2.2.2.2.2.2 pn.toInt ∧ jGl (jG1 u.2.2.2.2.2.2 u.1.toInt py.toInt) u.2.2.2.1 u.2.2.2.2.1 u.2.2.2.2.2.1 u.2.2.1.toInt) (fun u t => jRt (dC, dI) B base G0 EX13_others H0 [(r0, 15, 5, .int u.1), (r0, 15, 34, .int u.2.1), (r0, 15, 21, .int u.2.2.1)] t.heap ∧ jMc (dC, dI) G0 t.heap [(zg, 161, 46, ca 1, u.2.2.2.1), (zh, 159, 46, ca 1, u.2.2.2.2.1), (zp, 162, 368, ca 1, u.2.2.2.2.2.1), (zs, 150, 120000, ca 1, u.2.2.2.2.2.2.s), (zn, 151, 120000, ca 1, u.2.2.2.2.2.2.n), (za, 152, 120000, ca 1, u.2.2.2.2.2.2.a), (zb, 153, 120000, ca 1, u.2.2.2.2.2.2.b), (zc, 154, 120000, ca 1, u.2.2.2.2.2.2.c), (zy, 165, 16, ca 1, u.2.2.2.2.2.2.y)]) (jA base)) ([.ref r0, .int a1, .int a2, .int a3, .int a4, .int a5] : List Value).toArray s 0 0 (jA base) := ⟨_, rfl⟩
  rw [← hQ]
  have hl := lv_entry ([.ref r0, .int a1, .int a2, .int a3, .int a4, .int a5]) (n := 7) (Nat.le_of_ble_eq_true rfl)
  rw [lg_entry_eq]
  generalize (lg_sl ([.ref r0, .int a1, .int a2, .int a3, .int a4, .int a5]) ++ List.replicate (7 - (lg_sl ([.ref r0, .int a1, .int a2, .int a3, .int a4, .int a5])).length) Slot.unset).toArray = ls at hl ⊢
  have hl : lv_has ls 7 [(0, .ref r0), (1, .int a1), (2, .int a2), (3, .int a3), (4, .int a4), (5, .int a5)] := hl
  generalize hR : (headSpec (jw yX13_others cX13_others 7 none) ({ frames := 1692, cells := 0, slots := 0, locals := 70849 })).room = R
  subst hH0
  have hh : jSt (dC, dI) B base G0 G0 EX13_others s.heap 0 0 [(r0, 15, 5, .int pn), (r0, 15, 34, .int pu), (r0, 15, 11, .int py), (r0, 15, 21, .int pg), (r0, 15, 22, .ref zg), (r0, 15, 25, .ref zh), (r0, 15, 27, .ref zp), (r0, 15, 0, .ref zs), (r0, 15, 1, .ref zn), (r0, 15, 2, .ref za), (r0, 15, 3, .ref zb), (r0, 15, 4, .ref zc), (r0, 15, 14, .ref zy)] [(zg, 161, 46, ca 1, fg), (zh, 159, 46, ca 1, fh), (zp, 162, 368, ca 1, fp), (zs, 150, 120000, ca 1, C.s), (zn, 151, 120000, ca 1, C.n), (za, 152, 120000, ca 1, C.a), (zb, 153, 120000, ca 1, C.b), (zc, 154, 120000, ca 1, C.c), (zy, 165, 16, ca 1, C.y)] [] s.heap [] := jSt.start hX hP0 hM0 jIs.nil
  clear hX hP0
  have hk0 : (0 : Int32).toInt = 0 := by decide
  have hk1 : (1 : Int32).toInt = 1 := by decide
  have hk2 : (2 : Int32).toInt = 2 := by decide
  have hk4 : (4 : Int32).toInt = 4 := by decide
  have hk5 : (5 : Int32).toInt = 5 := by decide
  have hk8 : (8 : Int32).toInt = 8 := by decide
  have hk9 : (9 : Int32).toInt = 9 := by decide
  have hk14 : (14 : Int32).toInt = 14 := by decide
  have hk15 : (15 : Int32).toInt = 15 := by decide
  have hk80 : (80 : Int32).toInt = 80 := by decide
  have hly_15_0 := htw (u_lay RX13 TX13 0) (jWc_wsX130 _ (u_in_lay (by decide)))
  have hly_15_22 := htw (u_lay RX13 TX13 22) (jWc_wsX130 _ (u_in_lay (by decide)))
  have hly_15_25 := htw (u_lay RX13 TX13 25) (jWc_wsX130 _ (u_in_lay (by decide)))
  have hly_15_34 := htw (u_lay RX13 TX13 34) (jWc_wsX130 _ (u_in_lay (by decide)))
  have hly_15_38 := htw (u_lay RX13 TX13 38) (jWc_wsX130 _ (u_in_lay (by decide)))
  have hly_15_39 := htw (u_lay RX13 TX13 39) (jWc_wsX130 _ (u_in_lay (by decide)))
  have hlk_221 := (htw (.fieldLink RX13 221 "ProofServerModel$Kernel" "fault" "I") (jWr_60 _ (List.mem_of_getElem? (i := 3) rfl)))
  have hlk_53 := (htw (.fieldLink RX13 53 "ProofServerModel$Kernel" "goal" "[I") (jWr_14 _ (List.mem_of_getElem? (i := 22) rfl)))
  have hlk_12 := (htw (.fieldLink RX13 12 "ProofServerModel$Kernel" "sort" "[I") (jWr_14 _ (List.mem_of_getElem? (i := 9) rfl)))
  have hlk_62 := (htw (.fieldLink RX13 62 "ProofServerModel$Kernel" "hyps" "[I") (jWr_15 _ (List.mem_of_getElem? (i := 1) rfl)))
  have hlk_303 := (htw (.fieldLink RX13 303 "ProofServerModel$Kernel" "name2" "I") (jWr_61 _ (List.mem_of_getElem? (i := 15) rfl)))
  have hlk_291 := (htw (.fieldLink RX13 291 "ProofServerModel$Kernel" "name1" "I") (jWr_61 _ (List.mem_of_getElem? (i := 12) rfl)))
  have hrg_a1 := jb_rng a1
  have hrg_a2 := jb_rng a2
  have hrg_a3 := jb_rng a3
  have hrg_a4 := jb_rng a4
  have hrg_a5 := jb_rng a5
  have hg0 : jG1 C pn.toInt py.toInt a4.toInt := by rw [hp8]; exact (hp0 0 (by omega) (by omega)).1
  have hr0 := hg0.rng
  have hs0 := (hp0 0 (by omega) (by omega)).2.2.1
  refine lv_iload_n hx hb dX13_others_0 rfl (lv_at hl 1 rfl) ?_
  refine lv_bipush (v := 14) hx hb dX13_others_1 (by decide) ?_
  refine lv_icmp_ne (tgt := 56) hx hb dX13_others_3 (by decide) (fun c_1 => ?_) (fun c_1 => ?_)
  · skip
    have c_1' : a1.toInt ≠ 14 := jb_ne (rfl) ((by decide)) c_1
    refine lv_iload_n hx hb dX13_others_56 rfl (lv_at hl 1 rfl) ?_
    refine lv_bipush (v := 15) hx hb dX13_others_57 (by decide) ?_
    refine lv_icmp_ne (tgt := 135) hx hb dX13_others_59 (by decide) (fun c_2 => ?_) (fun c_2 => ?_)
    · skip
      have c_2' : a1.toInt ≠ 15 := jb_ne (rfl) ((by decide)) c_2
      have h18 := hp12 (by omega) (by omega)
      have h18n := h18.1.nd
      have h18a := h18n.1
      have h18b := h18n.2.1
      refine lv_aload_n hx hb dX13_others_135 rfl (lv_at hl 0 rfl) ?_
      refine lv_iload_n hx hb dX13_others_136 rfl (lv_at hl 2 rfl) ?_
      refine va_calli (A0 := jA base) (H0 := s.heap) (va_runV (As := [.int a2]) (rest := []) ⟨hx, hb, hml, hown, hts⟩ (aX13_size l dC dI ca base B hB hAp hB15 hB150 hB151 hB152 hB153 hB154 hB165 1600 G0 s.heap r0 a2 zs zn za zb zc zy C) (cwV 1 hts (jgV (jWr_65 _ (List.mem_of_getElem? (i := 11) rfl)) (jWr_65 _ (List.mem_of_getElem? (i := 12) rfl)) (jWr_65 _ (List.mem_of_getElem? (i := 13) rfl)) (jWr_12 _ (List.mem_of_getElem? (i := 12) rfl)) (jWr_65 _ (List.mem_of_getElem? (i := 14) rfl))) rfl rfl rfl (by decide +kernel) ⟨by rw [← hR]; exact Nat.le_of_ble_eq_true rfl, by rw [← hR]; exact Nat.le_of_ble_eq_true rfl⟩) ⟨fun a U g mk q => by obtain ⟨q0, q1, q2, qK, q10, q11, q12, q13, q14, q15, q16, q17, q18, q19⟩ := q; exact ⟨q0, q1, q2, jG.calling g mk a qK, q10, q11, q12, q13, q14, q15, q16, q17, q18, q19⟩, hh.recv (C := RX13) (T := TX13) (N := 50) hB15 rfl (by decide) hg_r0 hK, fun U hU hW => ⟨rfl, hU, hh.2.1, hG.step hW hU hh.1, hg_r0, hg_zs, hg_zn, hg_za, hg_zb, hg_zc, hg_zy, (hh.2.2.1.sub (L1 := [(r0, 15, 0, .ref zs), (r0, 15, 1, .ref zn), (r0, 15, 2, .ref za), (r0, 15, 3, .ref zb), (r0, 15, 4, .ref zc), (r0, 15, 14, .ref zy)]) [7, 8, 9, 10, 11, 12] rfl), (hh.2.2.2.2.2.2.2.1.sub (L1 := [(zs, 150, 120000, ca 1, C.s), (zn, 151, 120000, ca 1, C.n), (za, 152, 120000, ca 1, C.a), (zb, 153, 120000, ca 1, C.b), (zc, 154, 120000, ca 1, C.c), (zy, 165, 16, ca 1, C.y)]) [3, 4, 5, 6, 7, 8] rfl), ⟨(by first | assumption | exact h18.1.tr (by omega) (by omega) | exact h18.2 | omega), (by first | omega | rfl | assumption | exact h18.1.tr (by omega) (by omega) | exact h18.2), (by first | omega | rfl | assumption | exact h18.1.tr (by omega) (by omega) | exact h18.2)⟩⟩⟩ rfl rfl hl.1 rfl (lv_room (Nat.le_of_ble_eq_true rfl)) dX13_others_137 ⟨Nat.zero_le _, Nat.zero_le _⟩) hh.1 (fun q _ h => h) (fun q h => h) (fun r_4 u_3 t_3 H_3 locs_3 ht_3 hvm_3 hr_4 hb_3 hz_3 hk_3 hS_3 => ?_)
      rw [ht_3] at hb_3
      obtain ⟨hb_31, hb_32, hb_33, hb_34, hb_35⟩ := hb_3
      have hh_3 : jSt (dC, dI) B base G0 G0 EX13_others s.heap 0 0 [(r0, 15, 5, .int pn), (r0, 15, 34, .int pu), (r0, 15, 11, .int py), (r0, 15, 21, .int pg), (r0, 15, 22, .ref zg), (r0, 15, 25, .ref zh), (r0, 15, 27, .ref zp), (r0, 15, 0, .ref zs), (r0, 15, 1, .ref zn), (r0, 15, 2, .ref za), (r0, 15, 3, .ref zb), (r0, 15, 4, .ref zc), (r0, 15, 14, .ref zy)] [(zg, 161, 46, ca 1, fg), (zh, 159, 46, ca 1, fh), (zp, 162, 368, ca 1, fp), (zs, 150, 120000, ca 1, C.s), (zn, 151, 120000, ca 1, C.n), (za, 152, 120000, ca 1, C.a), (zb, 153, 120000, ca 1, C.b), (zc, 154, 120000, ca 1, C.c), (zy, 165, 16, ca 1, C.y)] [] H_3 locs_3 := ((hh.call hb_31 hb_32 hb_33 hb_34 hS_3 rfl (L1 := [(r0, 15, 5, .int pn), (r0, 15, 34, .int pu), (r0, 15, 11, .int py), (r0, 15, 21, .int pg), (r0, 15, 22, .ref zg), (r0, 15, 25, .ref zh), (r0, 15, 27, .ref zp), (r0, 15, 0, .ref zs), (r0, 15, 1, .ref zn), (r0, 15, 2, .ref za), (r0, 15, 3, .ref zb), (r0, 15, 4, .ref zc), (r0, 15, 14, .ref zy)]) [0, 1, 2, 3, 4, 5, 6, 7, 8, 9, 10, 11, 12] rfl rfl (M1 := [(zg, 161, 46, ca 1, fg), (zh, 159, 46, ca 1, fh), (zp, 162, 368, ca 1, fp), (zs, 150, 120000, ca 1, C.s), (zn, 151, 120000, ca 1, C.n), (za, 152, 120000, ca 1, C.a), (zb, 153, 120000, ca 1, C.b), (zc, 154, 120000, ca 1, C.c), (zy, 165, 16, ca 1, C.y)]) [0, 1, 2, 3, 4, 5, 6, 7, 8] rfl rfl (I1 := []) [] rfl rfl).more hb_35)
      clear hh ht_3 hvm_3 hz_3 hk_3 hS_3 hb_31 hb_32 hb_33 hb_34 hb_35
      refine lv_bipush (v := 80) hx hb dX13_others_140 (by decide) ?_
      refine lv_icmp_gt (tgt := 156) hx hb dX13_others_142 (by decide) (fun c_5 => ?_) (fun c_5 => ?_)
      · skip
        have c_5' : r_4.toInt > 80 := jb_gt (rfl) ((by decide)) c_5
        refine lv_aload_n hx hb dX13_others_156 rfl (lv_at hl 0 rfl) ?_
        refine lv_bipush (v := 9) hx hb dX13_others_157 (by decide) ?_
        refine va_callv (A0 := jA base) (H0 := s.heap) (va_runV (As := [.int 9]) (rest := []) ⟨hx, hb, hml, hown, hts⟩ (uX13_failsK l dC dI ca base B hB hAp hB15 G0 H_3 r0 9 pu) (cwV 1 hts (jgV (jWr_64 _ (List.mem_of_getElem? (i := 19) rfl)) (jWr_64 _ (List.mem_of_getElem? (i := 20) rfl)) (jWr_64 _ (List.mem_of_getElem? (i := 21) rfl)) (jWr_12 _ (List.mem_of_getElem? (i := 12) rfl)) (jWr_64 _ (List.mem_of_getElem? (i := 22) rfl))) rfl rfl rfl (by decide +kernel) ⟨by rw [← hR]; exact Nat.le_of_ble_eq_true rfl, by rw [← hR]; exact Nat.le_of_ble_eq_true rfl⟩) ⟨fun a U g mk q => by obtain ⟨q0, q1, q2, qK, q10, q11, q12⟩ := q; exact ⟨q0, q1, q2, jG.calling g mk a qK, q10, q11, q12⟩, hh_3.recv (C := RX13) (T := TX13) (N := 50) hB15 rfl (by decide) hg_r0 hK, fun U hU hW => ⟨rfl, hU, hh_3.2.1, hG.step hW hU hh_3.1, hg_r0, (hh_3.2.2.1.sub (L1 := [(r0, 15, 34, .int pu)]) [1] rfl), by first | omega | (refine ⟨?_, ?_, ?_, ?_⟩ <;> (first | omega | rfl | assumption | decide | exact Or.inl rfl | exact Or.inr rfl | (simp only; omega)))⟩⟩ rfl rfl hl.1 rfl (lv_room (Nat.le_of_ble_eq_true rfl)) dX13_others_159 ⟨Nat.zero_le _, Nat.zero_le _⟩) hh_3.1 (fun q _ h => h) (fun q h => h) (fun u_6 t_6 H_6 locs_6 ht_6 hvm_6 hr_7 hb_6 hz_6 hk_6 hS_6 => ?_)
        obtain ⟨qu_6, rfl⟩ : ∃ z, z = u_6 := ⟨_, rfl⟩
        rw [ht_6] at hb_6
        obtain ⟨hb_61, hb_62, hb_63, hb_64, hb_65⟩ := hb_6
        have hh_6 : jSt (dC, dI) B base G0 G0 EX13_others s.heap 0 0 [(r0, 15, 34, .int qu_6), (r0, 15, 5, .int pn), (r0, 15, 11, .int py), (r0, 15, 21, .int pg), (r0, 15, 22, .ref zg), (r0, 15, 25, .ref zh), (r0, 15, 27, .ref zp), (r0, 15, 0, .ref zs), (r0, 15, 1, .ref zn), (r0, 15, 2, .ref za), (r0, 15, 3, .ref zb), (r0, 15, 4, .ref zc), (r0, 15, 14, .ref zy)] [(zg, 161, 46, ca 1, fg), (zh, 159, 46, ca 1, fh), (zp, 162, 368, ca 1, fp), (zs, 150, 120000, ca 1, C.s), (zn, 151, 120000, ca 1, C.n), (za, 152, 120000, ca 1, C.a), (zb, 153, 120000, ca 1, C.b), (zc, 154, 120000, ca 1, C.c), (zy, 165, 16, ca 1, C.y)] [] H_6 locs_6 := ((hh_3.call hb_61 hb_62 hb_63 hb_64 hS_6 rfl (L1 := [(r0, 15, 5, .int pn), (r0, 15, 11, .int py), (r0, 15, 21, .int pg), (r0, 15, 22, .ref zg), (r0, 15, 25, .ref zh), (r0, 15, 27, .ref zp), (r0, 15, 0, .ref zs), (r0, 15, 1, .ref zn), (r0, 15, 2, .ref za), (r0, 15, 3, .ref zb), (r0, 15, 4, .ref zc), (r0, 15, 14, .ref zy)]) [0, 2, 3, 4, 5, 6, 7, 8, 9, 10, 11, 12] rfl rfl (M1 := [(zg, 161, 46, ca 1, fg), (zh, 159, 46, ca 1, fh), (zp, 162, 368, ca 1, fp), (zs, 150, 120000, ca 1, C.s), (zn, 151, 120000, ca 1, C.n), (za, 152, 120000, ca 1, C.a), (zb, 153, 120000, ca 1, C.b), (zc, 154, 120000, ca 1, C.c), (zy, 165, 16, ca 1, C.y)]) [0, 1, 2, 3, 4, 5, 6, 7, 8] rfl rfl (I1 := []) [] rfl rfl).more hb_65)
        clear hh_3 ht_6 hvm_6 hz_6 hk_6 hS_6 hb_61 hb_62 hb_63 hb_64 hb_65
        obtain ⟨hr_7_0, hr_7_1, hr_7_2, hr_7_3⟩ := hr_7
        refine lv_aload_n hx hb dX13_others_162 rfl (lv_at hl 0 rfl) ?_
        refine j7_read hx hb hown hK (C := RX13) (T := TX13) (N := 50) rfl hly_15_34 hlk_221 (hh_6.at 0 rfl) dX13_others_163 ?_
        refine lv_if_ne (tgt := 174) hx hb dX13_others_166 (by decide) (fun c_8 => ?_) (fun c_8 => ?_)
        · skip
          have c_8' : qu_6.toInt ≠ 0 := jb_ne (rfl) ((by decide)) c_8
          refine lv_aload_n hx hb dX13_others_174 rfl (lv_at hl 0 rfl) ?_
          refine j7_read hx hb hown hK (C := RX13) (T := TX13) (N := 50) rfl hly_15_34 hlk_221 (hh_6.at 0 rfl) dX13_others_175 ?_
          refine lv_if_le (tgt := 182) hx hb dX13_others_178 (by decide) (fun c_9 => ?_) (fun c_9 => ?_)
          · skip
            have c_9' : qu_6.toInt ≤ 0 := jb_le (rfl) ((by decide)) c_9
            exact (by omega : False).elim
          · skip
            have c_9' : qu_6.toInt > 0 := jb_le_n (rfl) ((by decide)) c_9
            rw [hQ]
            exact W.vret hx hb hr (fun t ht hW => ⟨⟨(pn, qu_6, pg, fg, fh, fp, C), rfl, by (try dsimp only); exact ⟨by omega, by omega, by omega, by omega, by omega, by omega, jAgK.rf _ _, hp0⟩, ⟨hh_6.rt (M1 := [(r0, 15, 5, .int pn), (r0, 15, 34, .int qu_6), (r0, 15, 21, .int pg)]) [1, 0, 3] rfl ht, by rw [ht]; exact hh_6.2.2.2.2.2.2.2.1.sub [0, 1, 2, 3, 4, 5, 6, 7, 8] rfl⟩⟩, by rw [ht]; try exact hh_6.1.1, fun q h9 hq => by rw [ht]; try exact hh_6.1.2.1 q h9 hq⟩) hh_6.1.2.2 dX13_others_181
        · skip
          have c_8' : qu_6.toInt = 0 := jb_ne_n (rfl) ((by decide)) c_8
          exact (by omega : False).elim
      · skip
        have c_5' : r_4.toInt ≤ 80 := jb_gt_n (rfl) ((by decide)) c_5
        refine lv_aload_n hx hb dX13_others_145 rfl (lv_at hl 0 rfl) ?_
        refine j7_read hx hb hown hK (C := RX13) (T := TX13) (N := 50) rfl hly_15_25 hlk_62 (hh_3.at 5 rfl) dX13_others_146 ?_
        refine lv_iconst (v := 0) hx hb dX13_others_149 (by decide) ?_
        refine j7_ialdM hx hb hK hh_3 hB159 1 rfl (by decide) hg_zh (x := 0) ((by decide)) (by omega) (j := 1) rfl dX13_others_150 (fun z_10 ez_10 (hz_10 : 0 ≤ z_10.toInt ∧ z_10.toInt ≤ 8) => ?_)
        have hqz_10 : z_10.toInt = jSo fh (0) := by unfold jSo; rw [ez_10]
        refine lv_bipush (v := 8) hx hb dX13_others_151 (by decide) ?_
        refine lv_icmp_ne (tgt := 162) hx hb dX13_others_153 (by decide) (fun c_11 => ?_) (fun c_11 => ?_)
        · skip
          have c_11' : z_10.toInt ≠ 8 := jb_ne (rfl) ((by decide)) c_11
          refine lv_aload_n hx hb dX13_others_162 rfl (lv_at hl 0 rfl) ?_
          refine j7_read hx hb hown hK (C := RX13) (T := TX13) (N := 50) rfl hly_15_34 hlk_221 (hh_3.at 1 rfl) dX13_others_163 ?_
          refine lv_if_ne (tgt := 174) hx hb dX13_others_166 (by decide) (fun c_12 => ?_) (fun c_12 => ?_)
          · skip
            have c_12' : pu.toInt ≠ 0 := jb_ne (rfl) ((by decide)) c_12
            exact (by omega : False).elim
          · skip
            have c_12' : pu.toInt = 0 := jb_ne_n (rfl) ((by decide)) c_12
            refine lv_aload_n hx hb dX13_others_169 rfl (lv_at hl 0 rfl) ?_
            refine lv_iconst (v := 2) hx hb dX13_others_170 (by decide) ?_
            refine va_callv (A0 := jA base) (H0 := s.heap) (va_runV (As := [.int 2]) (rest := []) ⟨hx, hb, hml, hown, hts⟩ (uX13_timesK l dC dI ca base B hB hAp hB15 hB158 hB159 hB161 hB162 hB163 G0 H_3 r0 2 pg pu zg zh zp fg fh fp) (cwV 1 hts (jgV (jWr_67 _ (List.mem_of_getElem? (i := 19) rfl)) (jWr_67 _ (List.mem_of_getElem? (i := 20) rfl)) (jWr_67 _ (List.mem_of_getElem? (i := 21) rfl)) (jWr_12 _ (List.mem_of_getElem? (i := 12) rfl)) (jWr_67 _ (List.mem_of_getElem? (i := 22) rfl))) rfl rfl rfl (by decide +kernel) ⟨by rw [← hR]; exact Nat.le_of_ble_eq_true rfl, by rw [← hR]; exact Nat.le_of_ble_eq_true rfl⟩) ⟨fun a U g mk q => by obtain ⟨q0, q1, q2, qK, q10, q11, q12, q13, q14, q15, q16⟩ := q; exact ⟨q0, q1, q2, jG.calling g mk a qK, q10, q11, q12, q13, q14, q15, q16⟩, hh_3.recv (C := RX13) (T := TX13) (N := 50) hB15 rfl (by decide) hg_r0 hK, fun U hU hW => ⟨rfl, hU, hh_3.2.1, hG.step hW hU hh_3.1, hg_r0, hg_zg, hg_zh, hg_zp, (hh_3.2.2.1.sub (L1 := [(r0, 15, 21, .int pg), (r0, 15, 34, .int pu), (r0, 15, 22, .ref zg), (r0, 15, 25, .ref zh), (r0, 15, 27, .ref zp)]) [3, 1, 4, 5, 6] rfl), (hh_3.2.2.2.2.2.2.2.1.sub (L1 := [(zg, 161, 46, ca 1, fg), (zh, 159, 46, ca 1, fh), (zp, 162, 368, ca 1, fp)]) [0, 1, 2] rfl), by first | omega | (refine ⟨?_, ?_, ?_, ?_, ?_⟩ <;> (first | omega | rfl | assumption | decide | exact Or.inl rfl | exact Or.inr rfl | (simp only; omega)))⟩⟩ rfl rfl hl.1 rfl (lv_room (Nat.le_of_ble_eq_true rfl)) dX13_others_171 ⟨Nat.zero_le _, Nat.zero_le _⟩) hh_3.1 (fun q _ h => h) (fun q h => h) (fun u_13 t_13 H_13 locs_13 ht_13 hvm_13 hr_14 hb_13 hz_13 hk_13 hS_13 => ?_)
            obtain ⟨qg_13, qu_13, gg_13, gh_13, gp_13⟩ := u_13
            rw [ht_13] at hb_13
            obtain ⟨⟨hb_131, hb_132, hb_133, hb_134, hb_135⟩, hb_136⟩ := hb_13
            have hh_13 : jSt (dC, dI) B base G0 G0 EX13_others s.heap 0 0 [(r0, 15, 21, .int qg_13), (r0, 15, 34, .int qu_13), (r0, 15, 5, .int pn), (r0, 15, 11, .int py), (r0, 15, 22, .ref zg), (r0, 15, 25, .ref zh), (r0, 15, 27, .ref zp), (r0, 15, 0, .ref zs), (r0, 15, 1, .ref zn), (r0, 15, 2, .ref za), (r0, 15, 3, .ref zb), (r0, 15, 4, .ref zc), (r0, 15, 14, .ref zy)] [(zg, 161, 46, ca 1, gg_13), (zh, 159, 46, ca 1, gh_13), (zp, 162, 368, ca 1, gp_13), (zs, 150, 120000, ca 1, C.s), (zn, 151, 120000, ca 1, C.n), (za, 152, 120000, ca 1, C.a), (zb, 153, 120000, ca 1, C.b), (zc, 154, 120000, ca 1, C.c), (zy, 165, 16, ca 1, C.y)] [] H_13 locs_13 := ((hh_3.call hb_131 hb_132 hb_133 hb_134 hS_13 rfl (L1 := [(r0, 15, 5, .int pn), (r0, 15, 11, .int py), (r0, 15, 22, .ref zg), (r0, 15, 25, .ref zh), (r0, 15, 27, .ref zp), (r0, 15, 0, .ref zs), (r0, 15, 1, .ref zn), (r0, 15, 2, .ref za), (r0, 15, 3, .ref zb), (r0, 15, 4, .ref zc), (r0, 15, 14, .ref zy)]) [0, 2, 4, 5, 6, 7, 8, 9, 10, 11, 12] rfl rfl (M1 := [(zs, 150, 120000, ca 1, C.s), (zn, 151, 120000, ca 1, C.n), (za, 152, 120000, ca 1, C.a), (zb, 153, 120000, ca 1, C.b), (zc, 154, 120000, ca 1, C.c), (zy, 165, 16, ca 1, C.y)]) [3, 4, 5, 6, 7, 8] rfl rfl (I1 := []) [] rfl rfl).more hb_135).moreM hb_136
            clear hh_3 ht_13 hvm_13 hz_13 hk_13 hS_13 hb_131 hb_132 hb_133 hb_134 hb_135
            clear hb_136
            try simp only at hr_14
            obtain ⟨hr_14_0, hr_14_1, hr_14_2, hr_14_3, hr_14_4, hr_14_5⟩ := hr_14
            refine lv_aload_n hx hb dX13_others_174 rfl (lv_at hl 0 rfl) ?_
            refine j7_read hx hb hown hK (C := RX13) (T := TX13) (N := 50) rfl hly_15_34 hlk_221 (hh_13.at 1 rfl) dX13_others_175 ?_
            refine lv_if_le (tgt := 182) hx hb dX13_others_178 (by decide) (fun c_15 => ?_) (fun c_15 => ?_)
            · skip
              have c_15' : qu_13.toInt ≤ 0 := jb_le (rfl) ((by decide)) c_15
              have hti := (hr_14_4 (by omega)).2
              have hqg := (hr_14_4 (by omega)).1
              have ht1 := (hti.2 1 (by omega) (by omega)).2.1
              have hgf : jG1 C pn.toInt py.toInt a2.toInt := jG1.of h18.1 (by omega) (by omega)
              refine lv_aload_n hx hb dX13_others_182 rfl (lv_at hl 0 rfl) ?_
              refine j7_read hx hb hown hK (C := RX13) (T := TX13) (N := 50) rfl hly_15_22 hlk_53 (hh_13.at 4 rfl) dX13_others_183 ?_
              refine lv_iconst (v := 0) hx hb dX13_others_186 (by decide) ?_
              refine lv_iload_n hx hb dX13_others_187 rfl (lv_at hl 2 rfl) ?_
              refine j7_iastU hx hb hK hh_13 hB hB161 1 rfl (by decide) (by decide) rfl 0 rfl (M1 := [(zh, 159, 46, ca 1, gh_13), (zp, 162, 368, ca 1, gp_13), (zs, 150, 120000, ca 1, C.s), (zn, 151, 120000, ca 1, C.n), (za, 152, 120000, ca 1, C.a), (zb, 153, 120000, ca 1, C.b), (zc, 154, 120000, ca 1, C.c), (zy, 165, 16, ca 1, C.y)]) [1, 2, 3, 4, 5, 6, 7, 8] rfl rfl rfl hg_zg (x := 0) ((by decide)) (by omega) (by first | omega | (refine ⟨?_, ?_⟩ <;> (first | omega | rfl | assumption | decide | exact Or.inl rfl | exact Or.inr rfl | (simp only; omega)))) dX13_others_188 (fun H_16 locs_16 fs_17 hv_16 ho_16 hh_16 => ?_)
              have hv_16 : jSo fs_17 (0) = a2.toInt := by unfold jSo; rw [hv_16]; try exact rfl
              clear hh_13
              refine lv_aload_n hx hb dX13_others_189 rfl (lv_at hl 0 rfl) ?_
              refine lv_iconst (v := 1) hx hb dX13_others_190 (by decide) ?_
              refine lv_aload_n hx hb dX13_others_191 rfl (lv_at hl 0 rfl) ?_
              obtain ⟨v_18, hv_18, hh_19⟩ := hh_16.pin (C := RX13) (T := TX13) (N := 50) hB15 rfl (by decide) hg_r0 (i := 38) (by decide) rfl
              clear hh_16
              obtain ⟨name1_20, rfl, hloname1_20, hhiname1_20⟩ := hv_18
              refine j7_read hx hb hown hK (C := RX13) (T := TX13) (N := 50) rfl hly_15_38 hlk_291 (hh_19.at 0 rfl) dX13_others_192 ?_
              refine lv_iload_n hx hb dX13_others_195 rfl (lv_at hl 2 rfl) ?_
              refine va_callv (A0 := jA base) (H0 := s.heap) (va_runV (As := [.int 1, .int name1_20, .int a2]) (rest := []) ⟨hx, hb, hml, hown, hts⟩ (uX13_addHyp l dC dI ca base B hB hAp hB15 hB159 hB162 hB163 G0 H_16 r0 1 name1_20 a2 zh zp gh_13 gp_13) (cwV 3 hts (jgV (jWr_66 _ (List.mem_of_getElem? (i := 19) rfl)) (jWr_66 _ (List.mem_of_getElem? (i := 20) rfl)) (jWr_66 _ (List.mem_of_getElem? (i := 21) rfl)) (jWr_12 _ (List.mem_of_getElem? (i := 12) rfl)) (jWr_66 _ (List.mem_of_getElem? (i := 22) rfl))) rfl rfl rfl (by decide +kernel) ⟨by rw [← hR]; exact Nat.le_of_ble_eq_true rfl, by rw [← hR]; exact Nat.le_of_ble_eq_true rfl⟩) ⟨fun a U g mk q => by obtain ⟨q0, q1, q2, qK, q10, q11, q12, q13, q14, q15⟩ := q; exact ⟨q0, q1, q2, jG.calling g mk a qK, q10, q11, q12, q13, q14, q15⟩, hh_19.recv (C := RX13) (T := TX13) (N := 50) hB15 rfl (by decide) hg_r0 hK, fun U hU hW => ⟨rfl, hU, hh_19.2.1, hG.step hW hU hh_19.1, hg_r0, hg_zh, hg_zp, (hh_19.2.2.1.sub (L1 := [(r0, 15, 25, .ref zh), (r0, 15, 27, .ref zp)]) [6, 7] rfl), (hh_19.2.2.2.2.2.2.2.1.sub (L1 := [(zh, 159, 46, ca 1, gh_13), (zp, 162, 368, ca 1, gp_13)]) [1, 2] rfl), ⟨(by first | omega | rfl | assumption | (rw [hk1]; omega)), (by first | omega | rfl | assumption | (rw [hk1]; omega)), (by first | omega | rfl | assumption | (rw [hk1]; omega)), (by first | omega | rfl | assumption | (rw [hk1]; omega)), (by first | omega | rfl | assumption | (rw [hk1]; omega)), (by first | omega | rfl | assumption | (rw [hk1]; omega)), (by first | omega | rfl | assumption | (rw [hk1]; omega)), (by first | omega | rfl | assumption | (rw [hk1]; omega))⟩⟩⟩ rfl rfl hl.1 rfl (lv_room (Nat.le_of_ble_eq_true rfl)) dX13_others_196 ⟨Nat.zero_le _, Nat.zero_le _⟩) hh_19.1 (fun q _ h => h) (fun q h => h) (fun u_21 t_21 H_21 locs_21 ht_21 hvm_21 hr_22 hb_21 hz_21 hk_21 hS_21 => ?_)
              obtain ⟨gh_21, gp_21⟩ := u_21
              rw [ht_21] at hb_21
              obtain ⟨⟨hb_211, hb_212, hb_213, hb_214, hb_215⟩, hb_216⟩ := hb_21
              have hh_21 : jSt (dC, dI) B base G0 G0 EX13_others s.heap 0 0 [(r0, 15, 38, .int name1_20), (r0, 15, 21, .int qg_13), (r0, 15, 34, .int qu_13), (r0, 15, 5, .int pn), (r0, 15, 11, .int py), (r0, 15, 22, .ref zg), (r0, 15, 25, .ref zh), (r0, 15, 27, .ref zp), (r0, 15, 0, .ref zs), (r0, 15, 1, .ref zn), (r0, 15, 2, .ref za), (r0, 15, 3, .ref zb), (r0, 15, 4, .ref zc), (r0, 15, 14, .ref zy)] [(zh, 159, 46, ca 1, gh_21), (zp, 162, 368, ca 1, gp_21), (zg, 161, 46, ca 1, fs_17), (zs, 150, 120000, ca 1, C.s), (zn, 151, 120000, ca 1, C.n), (za, 152, 120000, ca 1, C.a), (zb, 153, 120000, ca 1, C.b), (zc, 154, 120000, ca 1, C.c), (zy, 165, 16, ca 1, C.y)] [] H_21 locs_21 := ((hh_19.call hb_211 hb_212 hb_213 hb_214 hS_21 rfl (L1 := [(r0, 15, 38, .int name1_20), (r0, 15, 21, .int qg_13), (r0, 15, 34, .int qu_13), (r0, 15, 5, .int pn), (r0, 15, 11, .int py), (r0, 15, 22, .ref zg), (r0, 15, 25, .ref zh), (r0, 15, 27, .ref zp), (r0, 15, 0, .ref zs), (r0, 15, 1, .ref zn), (r0, 15, 2, .ref za), (r0, 15, 3, .ref zb), (r0, 15, 4, .ref zc), (r0, 15, 14, .ref zy)]) [0, 1, 2, 3, 4, 5, 6, 7, 8, 9, 10, 11, 12, 13] rfl rfl (M1 := [(zg, 161, 46, ca 1, fs_17), (zs, 150, 120000, ca 1, C.s), (zn, 151, 120000, ca 1, C.n), (za, 152, 120000, ca 1, C.a), (zb, 153, 120000, ca 1, C.b), (zc, 154, 120000, ca 1, C.c), (zy, 165, 16, ca 1, C.y)]) [0, 3, 4, 5, 6, 7, 8] rfl rfl (I1 := []) [] rfl rfl).more hb_215).moreM hb_216
              clear hh_19 ht_21 hvm_21 hz_21 hk_21 hS_21 hb_211 hb_212 hb_213 hb_214 hb_215
              clear hb_216
              try simp only at hr_22
              rw [hk1] at hr_22
              rw [hQ]
              exact W.vret hx hb hr (fun t ht hW => ⟨⟨(pn, qu_13, qg_13, fs_17, gh_21, gp_21, C), rfl, by (try dsimp only); exact ⟨by omega, by omega, by omega, by omega, by omega, by omega, jAgK.rf _ _, ((hp0.times hti).set (jUpd.mk (n := 46) hv_16 ho_16 rfl (by omega)) hgf (by omega)).add hr_22 hgf (by omega) (by omega) (by omega) (by omega) (by omega)⟩, ⟨hh_21.rt (M1 := [(r0, 15, 5, .int pn), (r0, 15, 34, .int qu_13), (r0, 15, 21, .int qg_13)]) [3, 2, 1] rfl ht, by rw [ht]; exact hh_21.2.2.2.2.2.2.2.1.sub [2, 0, 1, 3, 4, 5, 6, 7, 8] rfl⟩⟩, by rw [ht]; try exact hh_21.1.1, fun q h9 hq => by rw [ht]; try exact hh_21.1.2.1 q h9 hq⟩) hh_21.1.2.2 dX13_others_199
            · skip
              have c_15' : qu_13.toInt > 0 := jb_le_n (rfl) ((by decide)) c_15
              rw [hQ]
              exact W.vret hx hb hr (fun t ht hW => ⟨⟨(pn, qu_13, qg_13, gg_13, gh_13, gp_13, C), rfl, by (try dsimp only); obtain ⟨e1, e2, e3, e4⟩ := hr_14_5 (by omega); refine ⟨by omega, by omega, by omega, by omega, by omega, by omega, jAgK.rf _ _, ?_⟩; rw [e1, e2, e3, e4]; exact hp0, ⟨hh_13.rt (M1 := [(r0, 15, 5, .int pn), (r0, 15, 34, .int qu_13), (r0, 15, 21, .int qg_13)]) [2, 1, 0] rfl ht, by rw [ht]; exact hh_13.2.2.2.2.2.2.2.1.sub [0, 1, 2, 3, 4, 5, 6, 7, 8] rfl⟩⟩, by rw [ht]; try exact hh_13.1.1, fun q h9 hq => by rw [ht]; try exact hh_13.1.2.1 q h9 hq⟩) hh_13.1.2.2 dX13_others_181
        · skip
          have c_11' : z_10.toInt = 8 := jb_ne_n (rfl) ((by decide)) c_11
          refine lv_aload_n hx hb dX13_others_156 rfl (lv_at hl 0 rfl) ?_
          refine lv_bipush (v := 9) hx hb dX13_others_157 (by decide) ?_
          refine va_callv (A0 := jA base) (H0 := s.heap) (va_runV (As := [.int 9]) (rest := []) ⟨hx, hb, hml, hown, hts⟩ (uX13_failsK l dC dI ca base B hB hAp hB15 G0 H_3 r0 9 pu) (cwV 1 hts (jgV (jWr_64 _ (List.mem_of_getElem? (i := 19) rfl)) (jWr_64 _ (List.mem_of_getElem? (i := 20) rfl)) (jWr_64 _ (List.mem_of_getElem? (i := 21) rfl)) (jWr_12 _ (List.mem_of_getElem? (i := 12) rfl)) (jWr_64 _ (List.mem_of_getElem? (i := 22) rfl))) rfl rfl rfl (by decide +kernel) ⟨by rw [← hR]; exact Nat.le_of_ble_eq_true rfl, by rw [← hR]; exact Nat.le_of_ble_eq_true rfl⟩) ⟨fun a U g mk q => by obtain ⟨q0, q1, q2, qK, q10, q11, q12⟩ := q; exact ⟨q0, q1, q2, jG.calling g mk a qK, q10, q11, q12⟩, hh_3.recv (C := RX13) (T := TX13) (N := 50) hB15 rfl (by decide) hg_r0 hK, fun U hU hW => ⟨rfl, hU, hh_3.2.1, hG.step hW hU hh_3.1, hg_r0, (hh_3.2.2.1.sub (L1 := [(r0, 15, 34, .int pu)]) [1] rfl), by first | omega | (refine ⟨?_, ?_, ?_, ?_⟩ <;> (first | omega | rfl | assumption | decide | exact Or.inl rfl | exact Or.inr rfl | (simp only; omega)))⟩⟩ rfl rfl hl.1 rfl (lv_room (Nat.le_of_ble_eq_true rfl)) dX13_others_159 ⟨Nat.zero_le _, Nat.zero_le _⟩) hh_3.1 (fun q _ h => h) (fun q h => h) (fun u_23 t_23 H_23 locs_23 ht_23 hvm_23 hr_24 hb_23 hz_23 hk_23 hS_23 => ?_)
          obtain ⟨qu_23, rfl⟩ : ∃ z, z = u_23 := ⟨_, rfl⟩
          rw [ht_23] at hb_23
          obtain ⟨hb_231, hb_232, hb_233, hb_234, hb_235⟩ := hb_23
          have hh_23 : jSt (dC, dI) B base G0 G0 EX13_others s.heap 0 0 [(r0, 15, 34, .int qu_23), (r0, 15, 5, .int pn), (r0, 15, 11, .int py), (r0, 15, 21, .int pg), (r0, 15, 22, .ref zg), (r0, 15, 25, .ref zh), (r0, 15, 27, .ref zp), (r0, 15, 0, .ref zs), (r0, 15, 1, .ref zn), (r0, 15, 2, .ref za), (r0, 15, 3, .ref zb), (r0, 15, 4, .ref zc), (r0, 15, 14, .ref zy)] [(zg, 161, 46, ca 1, fg), (zh, 159, 46, ca 1, fh), (zp, 162, 368, ca 1, fp), (zs, 150, 120000, ca 1, C.s), (zn, 151, 120000, ca 1, C.n), (za, 152, 120000, ca 1, C.a), (zb, 153, 120000, ca 1, C.b), (zc, 154, 120000, ca 1, C.c), (zy, 165, 16, ca 1, C.y)] [] H_23 locs_23 := ((hh_3.call hb_231 hb_232 hb_233 hb_234 hS_23 rfl (L1 := [(r0, 15, 5, .int pn), (r0, 15, 11, .int py), (r0, 15, 21, .int pg), (r0, 15, 22, .ref zg), (r0, 15, 25, .ref zh), (r0, 15, 27, .ref zp), (r0, 15, 0, .ref zs), (r0, 15, 1, .ref zn), (r0, 15, 2, .ref za), (r0, 15, 3, .ref zb), (r0, 15, 4, .ref zc), (r0, 15, 14, .ref zy)]) [0, 2, 3, 4, 5, 6, 7, 8, 9, 10, 11, 12] rfl rfl (M1 := [(zg, 161, 46, ca 1, fg), (zh, 159, 46, ca 1, fh), (zp, 162, 368, ca 1, fp), (zs, 150, 120000, ca 1, C.s), (zn, 151, 120000, ca 1, C.n), (za, 152, 120000, ca 1, C.a), (zb, 153, 120000, ca 1, C.b), (zc, 154, 120000, ca 1, C.c), (zy, 165, 16, ca 1, C.y)]) [0, 1, 2, 3, 4, 5, 6, 7, 8] rfl rfl (I1 := []) [] rfl rfl).more hb_235)
          clear hh_3 ht_23 hvm_23 hz_23 hk_23 hS_23 hb_231 hb_232 hb_233 hb_234 hb_235
          obtain ⟨hr_24_0, hr_24_1, hr_24_2, hr_24_3⟩ := hr_24
          refine lv_aload_n hx hb dX13_others_162 rfl (lv_at hl 0 rfl) ?_
          refine j7_read hx hb hown hK (C := RX13) (T := TX13) (N := 50) rfl hly_15_34 hlk_221 (hh_23.at 0 rfl) dX13_others_163 ?_
          refine lv_if_ne (tgt := 174) hx hb dX13_others_166 (by decide) (fun c_25 => ?_) (fun c_25 => ?_)
          · skip
            have c_25' : qu_23.toInt ≠ 0 := jb_ne (rfl) ((by decide)) c_25
            refine lv_aload_n hx hb dX13_others_174 rfl (lv_at hl 0 rfl) ?_
            refine j7_read hx hb hown hK (C := RX13) (T := TX13) (N := 50) rfl hly_15_34 hlk_221 (hh_23.at 0 rfl) dX13_others_175 ?_
            refine lv_if_le (tgt := 182) hx hb dX13_others_178 (by decide) (fun c_26 => ?_) (fun c_26 => ?_)
            · skip
              have c_26' : qu_23.toInt ≤ 0 := jb_le (rfl) ((by decide)) c_26
              exact (by omega : False).elim
            · skip
              have c_26' : qu_23.toInt > 0 := jb_le_n (rfl) ((by decide)) c_26
              rw [hQ]
              exact W.vret hx hb hr (fun t ht hW => ⟨⟨(pn, qu_23, pg, fg, fh, fp, C), rfl, by (try dsimp only); exact ⟨by omega, by omega, by omega, by omega, by omega, by omega, jAgK.rf _ _, hp0⟩, ⟨hh_23.rt (M1 := [(r0, 15, 5, .int pn), (r0, 15, 34, .int qu_23), (r0, 15, 21, .int pg)]) [1, 0, 3] rfl ht, by rw [ht]; exact hh_23.2.2.2.2.2.2.2.1.sub [0, 1, 2, 3, 4, 5, 6, 7, 8] rfl⟩⟩, by rw [ht]; try exact hh_23.1.1, fun q h9 hq => by rw [ht]; try exact hh_23.1.2.1 q h9 hq⟩) hh_23.1.2.2 dX13_others_181
          · skip
            have c_25' : qu_23.toInt = 0 := jb_ne_n (rfl) ((by decide)) c_25
            exact (by omega : False).elim
    · skip
      have c_2' : a1.toInt = 15 := jb_ne_n (rfl) ((by decide)) c_2
      have h15 := hp11 (by omega)
      have h15r := h15.rng
      refine lv_aload_n hx hb dX13_others_62 rfl (lv_at hl 0 rfl) ?_
      refine j7_read hx hb hown hK (C := RX13) (T := TX13) (N := 50) rfl hly_15_0 hlk_12 (hh.at 7 rfl) dX13_others_63 ?_
      refine lv_iload_n hx hb dX13_others_66 rfl (lv_at hl 2 rfl) ?_
      refine j7_ialdM hx hb hK hh hB150 1 rfl (by decide) hg_zs (x := a2.toInt) (rfl) (by omega) (j := 3) rfl dX13_others_67 (fun z_27 ez_27 (hz_27 : True) => ?_)
      have hqz_27 : z_27.toInt = jSo C.s (a2.toInt) := by unfold jSo; rw [ez_27]
      refine lv_iconst (v := 4) hx hb dX13_others_68 (by decide) ?_
      refine lv_icmp_eq (tgt := 78) hx hb dX13_others_69 (by decide) (fun c_28 => ?_) (fun c_28 => ?_)
      · skip
        have c_28' : z_27.toInt = 4 := jb_eq (rfl) ((by decide)) c_28
        refine lv_aload_n hx hb dX13_others_78 rfl (lv_at hl 0 rfl) ?_
        refine j7_read hx hb hown hK (C := RX13) (T := TX13) (N := 50) rfl hly_15_25 hlk_62 (hh.at 5 rfl) dX13_others_79 ?_
        refine lv_iconst (v := 0) hx hb dX13_others_82 (by decide) ?_
        refine j7_ialdM hx hb hK hh hB159 1 rfl (by decide) hg_zh (x := 0) ((by decide)) (by omega) (j := 1) rfl dX13_others_83 (fun z_29 ez_29 (hz_29 : 0 ≤ z_29.toInt ∧ z_29.toInt ≤ 8) => ?_)
        have hqz_29 : z_29.toInt = jSo fh (0) := by unfold jSo; rw [ez_29]
        refine lv_bipush (v := 8) hx hb dX13_others_84 (by decide) ?_
        refine lv_icmp_ne (tgt := 95) hx hb dX13_others_86 (by decide) (fun c_30 => ?_) (fun c_30 => ?_)
        · skip
          have c_30' : z_29.toInt ≠ 8 := jb_ne (rfl) ((by decide)) c_30
          refine lv_aload_n hx hb dX13_others_95 rfl (lv_at hl 0 rfl) ?_
          refine j7_read hx hb hown hK (C := RX13) (T := TX13) (N := 50) rfl hly_15_34 hlk_221 (hh.at 1 rfl) dX13_others_96 ?_
          refine lv_if_le (tgt := 106) hx hb dX13_others_99 (by decide) (fun c_31 => ?_) (fun c_31 => ?_)
          · skip
            have c_31' : pu.toInt ≤ 0 := jb_le (rfl) ((by decide)) c_31
            have g1 := h15.quant (M := pn.toInt) (jAgK.rf _ _) (Int.le_refl _) (by omega)
            have tt := hp10 (by omega)
            refine lv_aload_n hx hb dX13_others_106 rfl (lv_at hl 0 rfl) ?_
            refine lv_iload_n hx hb dX13_others_107 rfl (lv_at hl 2 rfl) ?_
            refine lv_iload_n hx hb dX13_others_108 rfl (lv_at hl 3 rfl) ?_
            refine va_calli (A0 := jA base) (H0 := s.heap) (va_runV (As := [.int a2, .int a3]) (rest := []) ⟨hx, hb, hml, hown, hts⟩ (uX13_opened l dC dI ca base B hB hAp hB15 hB150 hB151 hB152 hB153 hB154 hB165 hB169 G0 s.heap r0 a2 a3 pn py pu zs zn za zb zc zy C) (cwV 2 hts (jgV (jWr_66 _ (List.mem_of_getElem? (i := 23) rfl)) (jWr_67 _ (List.mem_of_getElem? (i := 0) rfl)) (jWr_67 _ (List.mem_of_getElem? (i := 1) rfl)) (jWr_12 _ (List.mem_of_getElem? (i := 12) rfl)) (jWr_67 _ (List.mem_of_getElem? (i := 2) rfl))) rfl rfl rfl (by decide +kernel) ⟨by rw [← hR]; exact Nat.le_of_ble_eq_true rfl, by rw [← hR]; exact Nat.le_of_ble_eq_true rfl⟩) ⟨fun a U g mk q => by obtain ⟨q0, q1, q2, qK, q10, q11, q12, q13, q14, q15, q16, q17, q18, q19⟩ := q; exact ⟨q0, q1, q2, jG.calling g mk a qK, q10, q11, q12, q13, q14, q15, q16, q17, q18, q19⟩, hh.recv (C := RX13) (T := TX13) (N := 50) hB15 rfl (by decide) hg_r0 hK, fun U hU hW => ⟨rfl, hU, hh.2.1, hG.step hW hU hh.1, hg_r0, hg_zs, hg_zn, hg_za, hg_zb, hg_zc, hg_zy, (hh.2.2.1.sub (L1 := [(r0, 15, 5, .int pn), (r0, 15, 11, .int py), (r0, 15, 34, .int pu), (r0, 15, 0, .ref zs), (r0, 15, 1, .ref zn), (r0, 15, 2, .ref za), (r0, 15, 3, .ref zb), (r0, 15, 4, .ref zc), (r0, 15, 14, .ref zy)]) [0, 2, 1, 7, 8, 9, 10, 11, 12] rfl), (hh.2.2.2.2.2.2.2.1.sub (L1 := [(zs, 150, 120000, ca 1, C.s), (zn, 151, 120000, ca 1, C.n), (za, 152, 120000, ca 1, C.a), (zb, 153, 120000, ca 1, C.b), (zc, 154, 120000, ca 1, C.c), (zy, 165, 16, ca 1, C.y)]) [3, 4, 5, 6, 7, 8] rfl), ⟨(by first | assumption | exact g1.1 | exact g1.2.1 | exact g1.2.2.1 | exact g1.2.2.2 | exact tt.1 | exact tt.2 | omega), (by first | omega | rfl | assumption | exact g1.1 | exact g1.2.1 | exact g1.2.2.1 | exact g1.2.2.2 | exact tt.1 | exact tt.2), (by first | omega | rfl | assumption | exact g1.1 | exact g1.2.1 | exact g1.2.2.1 | exact g1.2.2.2 | exact tt.1 | exact tt.2), (by first | omega | rfl | assumption | exact g1.1 | exact g1.2.1 | exact g1.2.2.1 | exact g1.2.2.2 | exact tt.1 | exact tt.2), (by first | assumption | exact g1.1 | exact g1.2.1 | exact g1.2.2.1 | exact g1.2.2.2 | exact tt.1 | exact tt.2 | omega), (by first | omega | rfl | assumption | exact g1.1 | exact g1.2.1 | exact g1.2.2.1 | exact g1.2.2.2 | exact tt.1 | exact tt.2), (by first | omega | rfl | assumption | exact g1.1 | exact g1.2.1 | exact g1.2.2.1 | exact g1.2.2.2 | exact tt.1 | exact tt.2), (by first | omega | rfl | assumption | exact g1.1 | exact g1.2.1 | exact g1.2.2.1 | exact g1.2.2.2 | exact tt.1 | exact tt.2), (by first | omega | rfl | assumption | exact g1.1 | exact g1.2.1 | exact g1.2.2.1 | exact g1.2.2.2 | exact tt.1 | exact tt.2), (by first | omega | rfl | assumption | exact g1.1 | exact g1.2.1 | exact g1.2.2.1 | exact g1.2.2.2 | exact tt.1 | exact tt.2), (by first | omega | rfl | assumption | exact g1.1 | exact g1.2.1 | exact g1.2.2.1 | exact g1.2.2.2 | exact tt.1 | exact tt.2), (by first | omega | rfl | assumption | exact g1.1 | exact g1.2.1 | exact g1.2.2.1 | exact g1.2.2.2 | exact tt.1 | exact tt.2)⟩⟩⟩ rfl rfl hl.1 rfl (lv_room (Nat.le_of_ble_eq_true rfl)) dX13_others_109 ⟨Nat.zero_le _, Nat.zero_le _⟩) hh.1 (fun q _ h => h) (fun q h => h) (fun r_33 u_32 t_32 H_32 locs_32 ht_32 hvm_32 hr_33 hb_32 hz_32 hk_32 hS_32 => ?_)
            obtain ⟨qn_32, qu_32, D_32⟩ := u_32
            rw [ht_32] at hb_32
            obtain ⟨⟨hb_321, hb_322, hb_323, hb_324, hb_325⟩, hb_326⟩ := hb_32
            have hh_32 : jSt (dC, dI) B base G0 G0 EX13_others s.heap 0 0 [(r0, 15, 5, .int qn_32), (r0, 15, 34, .int qu_32), (r0, 15, 11, .int py), (r0, 15, 21, .int pg), (r0, 15, 22, .ref zg), (r0, 15, 25, .ref zh), (r0, 15, 27, .ref zp), (r0, 15, 0, .ref zs), (r0, 15, 1, .ref zn), (r0, 15, 2, .ref za), (r0, 15, 3, .ref zb), (r0, 15, 4, .ref zc), (r0, 15, 14, .ref zy)] [(zs, 150, 120000, ca 1, D_32.s), (zn, 151, 120000, ca 1, D_32.n), (za, 152, 120000, ca 1, D_32.a), (zb, 153, 120000, ca 1, D_32.b), (zc, 154, 120000, ca 1, D_32.c), (zy, 165, 16, ca 1, D_32.y), (zg, 161, 46, ca 1, fg), (zh, 159, 46, ca 1, fh), (zp, 162, 368, ca 1, fp), (zy, 165, 16, ca 1, C.y)] [] H_32 locs_32 := ((hh.call hb_321 hb_322 hb_323 hb_324 hS_32 rfl (L1 := [(r0, 15, 11, .int py), (r0, 15, 21, .int pg), (r0, 15, 22, .ref zg), (r0, 15, 25, .ref zh), (r0, 15, 27, .ref zp), (r0, 15, 0, .ref zs), (r0, 15, 1, .ref zn), (r0, 15, 2, .ref za), (r0, 15, 3, .ref zb), (r0, 15, 4, .ref zc), (r0, 15, 14, .ref zy)]) [2, 3, 4, 5, 6, 7, 8, 9, 10, 11, 12] rfl rfl (M1 := [(zg, 161, 46, ca 1, fg), (zh, 159, 46, ca 1, fh), (zp, 162, 368, ca 1, fp), (zy, 165, 16, ca 1, C.y)]) [0, 1, 2, 8] rfl rfl (I1 := []) [] rfl rfl).more hb_325).moreM hb_326
            clear hh ht_32 hvm_32 hz_32 hk_32 hS_32 hb_321 hb_322 hb_323 hb_324 hb_325
            clear hb_326
            try simp only at hr_33
            obtain ⟨hr_33_0, hr_33_1, hr_33_2, hr_33_3, hr_33_4, hr_33_5⟩ := hr_33
            refine lv_istore (lv' := [(6, .int r_33), (0, .ref r0), (1, .int a1), (2, .int a2), (3, .int a3), (4, .int a4), (5, .int a5)]) hx hb dX13_others_112 hl (by decide) rfl (fun ls hl => ?_)
            refine lv_aload_n hx hb dX13_others_114 rfl (lv_at hl 1 rfl) ?_
            refine j7_read hx hb hown hK (C := RX13) (T := TX13) (N := 50) rfl hly_15_34 hlk_221 (hh_32.at 1 rfl) dX13_others_115 ?_
            refine lv_if_ne (tgt := 132) hx hb dX13_others_118 (by decide) (fun c_34 => ?_) (fun c_34 => ?_)
            · skip
              have c_34' : qu_32.toInt ≠ 0 := jb_ne (rfl) ((by decide)) c_34
              refine lv_goto (tgt := 199) hx hb dX13_others_132 (by decide) ?_
              rw [hQ]
              exact W.vret hx hb hr (fun t ht hW => ⟨⟨(qn_32, qu_32, pg, fg, fh, fp, D_32), rfl, by (try dsimp only); exact ⟨by omega, by omega, by omega, by omega, by omega, by omega, hr_33_2, hp0.mono (fun x q => q.ag hr_33_2 (by omega))⟩, ⟨hh_32.rt (M1 := [(r0, 15, 5, .int qn_32), (r0, 15, 34, .int qu_32), (r0, 15, 21, .int pg)]) [0, 1, 3] rfl ht, by rw [ht]; exact hh_32.2.2.2.2.2.2.2.1.sub [6, 7, 8, 0, 1, 2, 3, 4, 5] rfl⟩⟩, by rw [ht]; try exact hh_32.1.1, fun q h9 hq => by rw [ht]; try exact hh_32.1.2.1 q h9 hq⟩) hh_32.1.2.2 dX13_others_199
            · skip
              have c_34' : qu_32.toInt = 0 := jb_ne_n (rfl) ((by decide)) c_34
              have hb5 := (hr_33_5 (by omega)).1.nd
              have hb6 := hb5.1
              have hb7 := hb5.2.1
              refine lv_aload_n hx hb dX13_others_121 rfl (lv_at hl 1 rfl) ?_
              refine lv_iconst (v := 0) hx hb dX13_others_122 (by decide) ?_
              refine lv_aload_n hx hb dX13_others_123 rfl (lv_at hl 1 rfl) ?_
              obtain ⟨v_35, hv_35, hh_36⟩ := hh_32.pin (C := RX13) (T := TX13) (N := 50) hB15 rfl (by decide) hg_r0 (i := 39) (by decide) rfl
              clear hh_32
              obtain ⟨name2_37, rfl, hloname2_37, hhiname2_37⟩ := hv_35
              refine j7_read hx hb hown hK (C := RX13) (T := TX13) (N := 50) rfl hly_15_39 hlk_303 (hh_36.at 0 rfl) dX13_others_124 ?_
              refine lv_iload hx hb dX13_others_127 (lv_at hl 0 rfl) ?_
              refine va_callv (A0 := jA base) (H0 := s.heap) (va_runV (As := [.int 0, .int name2_37, .int r_33]) (rest := []) ⟨hx, hb, hml, hown, hts⟩ (uX13_addHyp l dC dI ca base B hB hAp hB15 hB159 hB162 hB163 G0 H_32 r0 0 name2_37 r_33 zh zp fh fp) (cwV 3 hts (jgV (jWr_66 _ (List.mem_of_getElem? (i := 19) rfl)) (jWr_66 _ (List.mem_of_getElem? (i := 20) rfl)) (jWr_66 _ (List.mem_of_getElem? (i := 21) rfl)) (jWr_12 _ (List.mem_of_getElem? (i := 12) rfl)) (jWr_66 _ (List.mem_of_getElem? (i := 22) rfl))) rfl rfl rfl (by decide +kernel) ⟨by rw [← hR]; exact Nat.le_of_ble_eq_true rfl, by rw [← hR]; exact Nat.le_of_ble_eq_true rfl⟩) ⟨fun a U g mk q => by obtain ⟨q0, q1, q2, qK, q10, q11, q12, q13, q14, q15⟩ := q; exact ⟨q0, q1, q2, jG.calling g mk a qK, q10, q11, q12, q13, q14, q15⟩, hh_36.recv (C := RX13) (T := TX13) (N := 50) hB15 rfl (by decide) hg_r0 hK, fun U hU hW => ⟨rfl, hU, hh_36.2.1, hG.step hW hU hh_36.1, hg_r0, hg_zh, hg_zp, (hh_36.2.2.1.sub (L1 := [(r0, 15, 25, .ref zh), (r0, 15, 27, .ref zp)]) [6, 7] rfl), (hh_36.2.2.2.2.2.2.2.1.sub (L1 := [(zh, 159, 46, ca 1, fh), (zp, 162, 368, ca 1, fp)]) [7, 8] rfl), ⟨(by first | omega | rfl | assumption | (rw [hk0]; omega)), (by first | omega | rfl | assumption | (rw [hk0]; omega)), (by first | omega | rfl | assumption | (rw [hk0]; omega)), (by first | omega | rfl | assumption | (rw [hk0]; omega)), (by first | omega | rfl | assumption | (rw [hk0]; omega)), (by first | omega | rfl | assumption | (rw [hk0]; omega)), (by first | omega | rfl | assumption | (rw [hk0]; omega)), (by first | omega | rfl | assumption | (rw [hk0]; omega))⟩⟩⟩ rfl rfl hl.1 rfl (lv_room (Nat.le_of_ble_eq_true rfl)) dX13_others_129 ⟨Nat.zero_le _, Nat.zero_le _⟩) hh_36.1 (fun q _ h => h) (fun q h => h) (fun u_38 t_38 H_38 locs_38 ht_38 hvm_38 hr_39 hb_38 hz_38 hk_38 hS_38 => ?_)
              obtain ⟨gh_38, gp_38⟩ := u_38
              rw [ht_38] at hb_38
              obtain ⟨⟨hb_381, hb_382, hb_383, hb_384, hb_385⟩, hb_386⟩ := hb_38
              have hh_38 : jSt (dC, dI) B base G0 G0 EX13_others s.heap 0 0 [(r0, 15, 39, .int name2_37), (r0, 15, 5, .int qn_32), (r0, 15, 34, .int qu_32), (r0, 15, 11, .int py), (r0, 15, 21, .int pg), (r0, 15, 22, .ref zg), (r0, 15, 25, .ref zh), (r0, 15, 27, .ref zp), (r0, 15, 0, .ref zs), (r0, 15, 1, .ref zn), (r0, 15, 2, .ref za), (r0, 15, 3, .ref zb), (r0, 15, 4, .ref zc), (r0, 15, 14, .ref zy)] [(zh, 159, 46, ca 1, gh_38), (zp, 162, 368, ca 1, gp_38), (zs, 150, 120000, ca 1, D_32.s), (zn, 151, 120000, ca 1, D_32.n), (za, 152, 120000, ca 1, D_32.a), (zb, 153, 120000, ca 1, D_32.b), (zc, 154, 120000, ca 1, D_32.c), (zy, 165, 16, ca 1, D_32.y), (zg, 161, 46, ca 1, fg), (zy, 165, 16, ca 1, C.y)] [] H_38 locs_38 := ((hh_36.call hb_381 hb_382 hb_383 hb_384 hS_38 rfl (L1 := [(r0, 15, 39, .int name2_37), (r0, 15, 5, .int qn_32), (r0, 15, 34, .int qu_32), (r0, 15, 11, .int py), (r0, 15, 21, .int pg), (r0, 15, 22, .ref zg), (r0, 15, 25, .ref zh), (r0, 15, 27, .ref zp), (r0, 15, 0, .ref zs), (r0, 15, 1, .ref zn), (r0, 15, 2, .ref za), (r0, 15, 3, .ref zb), (r0, 15, 4, .ref zc), (r0, 15, 14, .ref zy)]) [0, 1, 2, 3, 4, 5, 6, 7, 8, 9, 10, 11, 12, 13] rfl rfl (M1 := [(zs, 150, 120000, ca 1, D_32.s), (zn, 151, 120000, ca 1, D_32.n), (za, 152, 120000, ca 1, D_32.a), (zb, 153, 120000, ca 1, D_32.b), (zc, 154, 120000, ca 1, D_32.c), (zy, 165, 16, ca 1, D_32.y), (zg, 161, 46, ca 1, fg), (zy, 165, 16, ca 1, C.y)]) [0, 1, 2, 3, 4, 5, 6, 9] rfl rfl (I1 := []) [] rfl rfl).more hb_385).moreM hb_386
              clear hh_36 ht_38 hvm_38 hz_38 hk_38 hS_38 hb_381 hb_382 hb_383 hb_384 hb_385
              clear hb_386
              try simp only at hr_39
              rw [hk0] at hr_39
              refine lv_goto (tgt := 199) hx hb dX13_others_132 (by decide) ?_
              rw [hQ]
              exact W.vret hx hb hr (fun t ht hW => ⟨⟨(qn_32, qu_32, pg, fg, gh_38, gp_38, D_32), rfl, by (try dsimp only); exact ⟨by omega, by omega, by omega, by omega, by omega, by omega, hr_33_2, (hp0.mono (fun x q => q.ag hr_33_2 (by omega))).add hr_39 (hr_33_5 (by omega)) (by omega) (by omega) (by omega) (by omega) (by omega)⟩, ⟨hh_38.rt (M1 := [(r0, 15, 5, .int qn_32), (r0, 15, 34, .int qu_32), (r0, 15, 21, .int pg)]) [1, 2, 4] rfl ht, by rw [ht]; exact hh_38.2.2.2.2.2.2.2.1.sub [8, 0, 1, 2, 3, 4, 5, 6, 7] rfl⟩⟩, by rw [ht]; try exact hh_38.1.1, fun q h9 hq => by rw [ht]; try exact hh_38.1.2.1 q h9 hq⟩) hh_38.1.2.2 dX13_others_199
          · skip
            have c_31' : pu.toInt > 0 := jb_le_n (rfl) ((by decide)) c_31
            refine lv_iconst (v := 0) hx hb dX13_others_102 (by decide) ?_
            refine lv_goto (tgt := 112) hx hb dX13_others_103 (by decide) ?_
            refine lv_istore (lv' := [(6, .int 0), (0, .ref r0), (1, .int a1), (2, .int a2), (3, .int a3), (4, .int a4), (5, .int a5)]) hx hb dX13_others_112 hl (by decide) rfl (fun ls hl => ?_)
            refine lv_aload_n hx hb dX13_others_114 rfl (lv_at hl 1 rfl) ?_
            refine j7_read hx hb hown hK (C := RX13) (T := TX13) (N := 50) rfl hly_15_34 hlk_221 (hh.at 1 rfl) dX13_others_115 ?_
            refine lv_if_ne (tgt := 132) hx hb dX13_others_118 (by decide) (fun c_40 => ?_) (fun c_40 => ?_)
            · skip
              have c_40' : pu.toInt ≠ 0 := jb_ne (rfl) ((by decide)) c_40
              refine lv_goto (tgt := 199) hx hb dX13_others_132 (by decide) ?_
              rw [hQ]
              exact W.vret hx hb hr (fun t ht hW => ⟨⟨(pn, pu, pg, fg, fh, fp, C), rfl, by (try dsimp only); exact ⟨by omega, by omega, by omega, by omega, by omega, by omega, jAgK.rf _ _, hp0⟩, ⟨hh.rt (M1 := [(r0, 15, 5, .int pn), (r0, 15, 34, .int pu), (r0, 15, 21, .int pg)]) [0, 1, 3] rfl ht, by rw [ht]; exact hh.2.2.2.2.2.2.2.1.sub [0, 1, 2, 3, 4, 5, 6, 7, 8] rfl⟩⟩, by rw [ht]; try exact hh.1.1, fun q h9 hq => by rw [ht]; try exact hh.1.2.1 q h9 hq⟩) hh.1.2.2 dX13_others_199
            · skip
              have c_40' : pu.toInt = 0 := jb_ne_n (rfl) ((by decide)) c_40
              exact (by omega : False).elim
        · skip
          have c_30' : z_29.toInt = 8 := jb_ne_n (rfl) ((by decide)) c_30
          refine lv_aload_n hx hb dX13_others_89 rfl (lv_at hl 0 rfl) ?_
          refine lv_bipush (v := 9) hx hb dX13_others_90 (by decide) ?_
          refine va_callv (A0 := jA base) (H0 := s.heap) (va_runV (As := [.int 9]) (rest := []) ⟨hx, hb, hml, hown, hts⟩ (uX13_failsK l dC dI ca base B hB hAp hB15 G0 s.heap r0 9 pu) (cwV 1 hts (jgV (jWr_64 _ (List.mem_of_getElem? (i := 19) rfl)) (jWr_64 _ (List.mem_of_getElem? (i := 20) rfl)) (jWr_64 _ (List.mem_of_getElem? (i := 21) rfl)) (jWr_12 _ (List.mem_of_getElem? (i := 12) rfl)) (jWr_64 _ (List.mem_of_getElem? (i := 22) rfl))) rfl rfl rfl (by decide +kernel) ⟨by rw [← hR]; exact Nat.le_of_ble_eq_true rfl, by rw [← hR]; exact Nat.le_of_ble_eq_true rfl⟩) ⟨fun a U g mk q => by obtain ⟨q0, q1, q2, qK, q10, q11, q12⟩ := q; exact ⟨q0, q1, q2, jG.calling g mk a qK, q10, q11, q12⟩, hh.recv (C := RX13) (T := TX13) (N := 50) hB15 rfl (by decide) hg_r0 hK, fun U hU hW => ⟨rfl, hU, hh.2.1, hG.step hW hU hh.1, hg_r0, (hh.2.2.1.sub (L1 := [(r0, 15, 34, .int pu)]) [1] rfl), by first | omega | (refine ⟨?_, ?_, ?_, ?_⟩ <;> (first | omega | rfl | assumption | decide | exact Or.inl rfl | exact Or.inr rfl | (simp only; omega)))⟩⟩ rfl rfl hl.1 rfl (lv_room (Nat.le_of_ble_eq_true rfl)) dX13_others_92 ⟨Nat.zero_le _, Nat.zero_le _⟩) hh.1 (fun q _ h => h) (fun q h => h) (fun u_41 t_41 H_41 locs_41 ht_41 hvm_41 hr_42 hb_41 hz_41 hk_41 hS_41 => ?_)
          obtain ⟨qu_41, rfl⟩ : ∃ z, z = u_41 := ⟨_, rfl⟩
          rw [ht_41] at hb_41
          obtain ⟨hb_411, hb_412, hb_413, hb_414, hb_415⟩ := hb_41
          have hh_41 : jSt (dC, dI) B base G0 G0 EX13_others s.heap 0 0 [(r0, 15, 34, .int qu_41), (r0, 15, 5, .int pn), (r0, 15, 11, .int py), (r0, 15, 21, .int pg), (r0, 15, 22, .ref zg), (r0, 15, 25, .ref zh), (r0, 15, 27, .ref zp), (r0, 15, 0, .ref zs), (r0, 15, 1, .ref zn), (r0, 15, 2, .ref za), (r0, 15, 3, .ref zb), (r0, 15, 4, .ref zc), (r0, 15, 14, .ref zy)] [(zg, 161, 46, ca 1, fg), (zh, 159, 46, ca 1, fh), (zp, 162, 368, ca 1, fp), (zs, 150, 120000, ca 1, C.s), (zn, 151, 120000, ca 1, C.n), (za, 152, 120000, ca 1, C.a), (zb, 153, 120000, ca 1, C.b), (zc, 154, 120000, ca 1, C.c), (zy, 165, 16, ca 1, C.y)] [] H_41 locs_41 := ((hh.call hb_411 hb_412 hb_413 hb_414 hS_41 rfl (L1 := [(r0, 15, 5, .int pn), (r0, 15, 11, .int py), (r0, 15, 21, .int pg), (r0, 15, 22, .ref zg), (r0, 15, 25, .ref zh), (r0, 15, 27, .ref zp), (r0, 15, 0, .ref zs), (r0, 15, 1, .ref zn), (r0, 15, 2, .ref za), (r0, 15, 3, .ref zb), (r0, 15, 4, .ref zc), (r0, 15, 14, .ref zy)]) [0, 2, 3, 4, 5, 6, 7, 8, 9, 10, 11, 12] rfl rfl (M1 := [(zg, 161, 46, ca 1, fg), (zh, 159, 46, ca 1, fh), (zp, 162, 368, ca 1, fp), (zs, 150, 120000, ca 1, C.s), (zn, 151, 120000, ca 1, C.n), (za, 152, 120000, ca 1, C.a), (zb, 153, 120000, ca 1, C.b), (zc, 154, 120000, ca 1, C.c), (zy, 165, 16, ca 1, C.y)]) [0, 1, 2, 3, 4, 5, 6, 7, 8] rfl rfl (I1 := []) [] rfl rfl).more hb_415)
          clear hh ht_41 hvm_41 hz_41 hk_41 hS_41 hb_411 hb_412 hb_413 hb_414 hb_415
          obtain ⟨hr_42_0, hr_42_1, hr_42_2, hr_42_3⟩ := hr_42
          refine lv_aload_n hx hb dX13_others_95 rfl (lv_at hl 0 rfl) ?_
          refine j7_read hx hb hown hK (C := RX13) (T := TX13) (N := 50) rfl hly_15_34 hlk_221 (hh_41.at 0 rfl) dX13_others_96 ?_
          refine lv_if_le (tgt := 106) hx hb dX13_others_99 (by decide) (fun c_43 => ?_) (fun c_43 => ?_)
          · skip
            have c_43' : qu_41.toInt ≤ 0 := jb_le (rfl) ((by decide)) c_43
            exact (by omega : False).elim
          · skip
            have c_43' : qu_41.toInt > 0 := jb_le_n (rfl) ((by decide)) c_43
            refine lv_iconst (v := 0) hx hb dX13_others_102 (by decide) ?_
            refine lv_goto (tgt := 112) hx hb dX13_others_103 (by decide) ?_
            refine lv_istore (lv' := [(6, .int 0), (0, .ref r0), (1, .int a1), (2, .int a2), (3, .int a3), (4, .int a4), (5, .int a5)]) hx hb dX13_others_112 hl (by decide) rfl (fun ls hl => ?_)
            refine lv_aload_n hx hb dX13_others_114 rfl (lv_at hl 1 rfl) ?_
            refine j7_read hx hb hown hK (C := RX13) (T := TX13) (N := 50) rfl hly_15_34 hlk_221 (hh_41.at 0 rfl) dX13_others_115 ?_
            refine lv_if_ne (tgt := 132) hx hb dX13_others_118 (by decide) (fun c_44 => ?_) (fun c_44 => ?_)
            · skip
              have c_44' : qu_41.toInt ≠ 0 := jb_ne (rfl) ((by decide)) c_44
              refine lv_goto (tgt := 199) hx hb dX13_others_132 (by decide) ?_
              rw [hQ]
              exact W.vret hx hb hr (fun t ht hW => ⟨⟨(pn, qu_41, pg, fg, fh, fp, C), rfl, by (try dsimp only); exact ⟨by omega, by omega, by omega, by omega, by omega, by omega, jAgK.rf _ _, hp0⟩, ⟨hh_41.rt (M1 := [(r0, 15, 5, .int pn), (r0, 15, 34, .int qu_41), (r0, 15, 21, .int pg)]) [1, 0, 3] rfl ht, by rw [ht]; exact hh_41.2.2.2.2.2.2.2.1.sub [0, 1, 2, 3, 4, 5, 6, 7, 8] rfl⟩⟩, by rw [ht]; try exact hh_41.1.1, fun q h9 hq => by rw [ht]; try exact hh_41.1.2.1 q h9 hq⟩) hh_41.1.2.2 dX13_others_199
            · skip
              have c_44' : qu_41.toInt = 0 := jb_ne_n (rfl) ((by decide)) c_44
              exact (by omega : False).elim
      · skip
        have c_28' : z_27.toInt ≠ 4 := jb_eq_n (rfl) ((by decide)) c_28
        refine lv_aload_n hx hb dX13_others_72 rfl (lv_at hl 0 rfl) ?_
        refine lv_bipush (v := 8) hx hb dX13_others_73 (by decide) ?_
        refine va_callv (A0 := jA base) (H0 := s.heap) (va_runV (As := [.int 8]) (rest := []) ⟨hx, hb, hml, hown, hts⟩ (uX13_failsK l dC dI ca base B hB hAp hB15 G0 s.heap r0 8 pu) (cwV 1 hts (jgV (jWr_64 _ (List.mem_of_getElem? (i := 19) rfl)) (jWr_64 _ (List.mem_of_getElem? (i := 20) rfl)) (jWr_64 _ (List.mem_of_getElem? (i := 21) rfl)) (jWr_12 _ (List.mem_of_getElem? (i := 12) rfl)) (jWr_64 _ (List.mem_of_getElem? (i := 22) rfl))) rfl rfl rfl (by decide +kernel) ⟨by rw [← hR]; exact Nat.le_of_ble_eq_true rfl, by rw [← hR]; exact Nat.le_of_ble_eq_true rfl⟩) ⟨fun a U g mk q => by obtain ⟨q0, q1, q2, qK, q10, q11, q12⟩ := q; exact ⟨q0, q1, q2, jG.calling g mk a qK, q10, q11, q12⟩, hh.recv (C := RX13) (T := TX13) (N := 50) hB15 rfl (by decide) hg_r0 hK, fun U hU hW => ⟨rfl, hU, hh.2.1, hG.step hW hU hh.1, hg_r0, (hh.2.2.1.sub (L1 := [(r0, 15, 34, .int pu)]) [1] rfl), by first | omega | (refine ⟨?_, ?_, ?_, ?_⟩ <;> (first | omega | rfl | assumption | decide | exact Or.inl rfl | exact Or.inr rfl | (simp only; omega)))⟩⟩ rfl rfl hl.1 rfl (lv_room (Nat.le_of_ble_eq_true rfl)) dX13_others_75 ⟨Nat.zero_le _, Nat.zero_le _⟩) hh.1 (fun q _ h => h) (fun q h => h) (fun u_45 t_45 H_45 locs_45 ht_45 hvm_45 hr_46 hb_45 hz_45 hk_45 hS_45 => ?_)
        obtain ⟨qu_45, rfl⟩ : ∃ z, z = u_45 := ⟨_, rfl⟩
        rw [ht_45] at hb_45
        obtain ⟨hb_451, hb_452, hb_453, hb_454, hb_455⟩ := hb_45
        have hh_45 : jSt (dC, dI) B base G0 G0 EX13_others s.heap 0 0 [(r0, 15, 34, .int qu_45), (r0, 15, 5, .int pn), (r0, 15, 11, .int py), (r0, 15, 21, .int pg), (r0, 15, 22, .ref zg), (r0, 15, 25, .ref zh), (r0, 15, 27, .ref zp), (r0, 15, 0, .ref zs), (r0, 15, 1, .ref zn), (r0, 15, 2, .ref za), (r0, 15, 3, .ref zb), (r0, 15, 4, .ref zc), (r0, 15, 14, .ref zy)] [(zg, 161, 46, ca 1, fg), (zh, 159, 46, ca 1, fh), (zp, 162, 368, ca 1, fp), (zs, 150, 120000, ca 1, C.s), (zn, 151, 120000, ca 1, C.n), (za, 152, 120000, ca 1, C.a), (zb, 153, 120000, ca 1, C.b), (zc, 154, 120000, ca 1, C.c), (zy, 165, 16, ca 1, C.y)] [] H_45 locs_45 := ((hh.call hb_451 hb_452 hb_453 hb_454 hS_45 rfl (L1 := [(r0, 15, 5, .int pn), (r0, 15, 11, .int py), (r0, 15, 21, .int pg), (r0, 15, 22, .ref zg), (r0, 15, 25, .ref zh), (r0, 15, 27, .ref zp), (r0, 15, 0, .ref zs), (r0, 15, 1, .ref zn), (r0, 15, 2, .ref za), (r0, 15, 3, .ref zb), (r0, 15, 4, .ref zc), (r0, 15, 14, .ref zy)]) [0, 2, 3, 4, 5, 6, 7, 8, 9, 10, 11, 12] rfl rfl (M1 := [(zg, 161, 46, ca 1, fg), (zh, 159, 46, ca 1, fh), (zp, 162, 368, ca 1, fp), (zs, 150, 120000, ca 1, C.s), (zn, 151, 120000, ca 1, C.n), (za, 152, 120000, ca 1, C.a), (zb, 153, 120000, ca 1, C.b), (zc, 154, 120000, ca 1, C.c), (zy, 165, 16, ca 1, C.y)]) [0, 1, 2, 3, 4, 5, 6, 7, 8] rfl rfl (I1 := []) [] rfl rfl).more hb_455)
        clear hh ht_45 hvm_45 hz_45 hk_45 hS_45 hb_451 hb_452 hb_453 hb_454 hb_455
        obtain ⟨hr_46_0, hr_46_1, hr_46_2, hr_46_3⟩ := hr_46
        refine lv_aload_n hx hb dX13_others_78 rfl (lv_at hl 0 rfl) ?_
        refine j7_read hx hb hown hK (C := RX13) (T := TX13) (N := 50) rfl hly_15_25 hlk_62 (hh_45.at 5 rfl) dX13_others_79 ?_
        refine lv_iconst (v := 0) hx hb dX13_others_82 (by decide) ?_
        refine j7_ialdM hx hb hK hh_45 hB159 1 rfl (by decide) hg_zh (x := 0) ((by decide)) (by omega) (j := 1) rfl dX13_others_83 (fun z_47 ez_47 (hz_47 : 0 ≤ z_47.toInt ∧ z_47.toInt ≤ 8) => ?_)
        have hqz_47 : z_47.toInt = jSo fh (0) := by unfold jSo; rw [ez_47]
        refine lv_bipush (v := 8) hx hb dX13_others_84 (by decide) ?_
        refine lv_icmp_ne (tgt := 95) hx hb dX13_others_86 (by decide) (fun c_48 => ?_) (fun c_48 => ?_)
        · skip
          have c_48' : z_47.toInt ≠ 8 := jb_ne (rfl) ((by decide)) c_48
          refine lv_aload_n hx hb dX13_others_95 rfl (lv_at hl 0 rfl) ?_
          refine j7_read hx hb hown hK (C := RX13) (T := TX13) (N := 50) rfl hly_15_34 hlk_221 (hh_45.at 0 rfl) dX13_others_96 ?_
          refine lv_if_le (tgt := 106) hx hb dX13_others_99 (by decide) (fun c_49 => ?_) (fun c_49 => ?_)
          · skip
            have c_49' : qu_45.toInt ≤ 0 := jb_le (rfl) ((by decide)) c_49
            exact (by omega : False).elim
          · skip
            have c_49' : qu_45.toInt > 0 := jb_le_n (rfl) ((by decide)) c_49
            refine lv_iconst (v := 0) hx hb dX13_others_102 (by decide) ?_
            refine lv_goto (tgt := 112) hx hb dX13_others_103 (by decide) ?_
            refine lv_istore (lv' := [(6, .int 0), (0, .ref r0), (1, .int a1), (2, .int a2), (3, .int a3), (4, .int a4), (5, .int a5)]) hx hb dX13_others_112 hl (by decide) rfl (fun ls hl => ?_)
            refine lv_aload_n hx hb dX13_others_114 rfl (lv_at hl 1 rfl) ?_
            refine j7_read hx hb hown hK (C := RX13) (T := TX13) (N := 50) rfl hly_15_34 hlk_221 (hh_45.at 0 rfl) dX13_others_115 ?_
            refine lv_if_ne (tgt := 132) hx hb dX13_others_118 (by decide) (fun c_50 => ?_) (fun c_50 => ?_)
            · skip
              have c_50' : qu_45.toInt ≠ 0 := jb_ne (rfl) ((by decide)) c_50
              refine lv_goto (tgt := 199) hx hb dX13_others_132 (by decide) ?_
              rw [hQ]
              exact W.vret hx hb hr (fun t ht hW => ⟨⟨(pn, qu_45, pg, fg, fh, fp, C), rfl, by (try dsimp only); exact ⟨by omega, by omega, by omega, by omega, by omega, by omega, jAgK.rf _ _, hp0⟩, ⟨hh_45.rt (M1 := [(r0, 15, 5, .int pn), (r0, 15, 34, .int qu_45), (r0, 15, 21, .int pg)]) [1, 0, 3] rfl ht, by rw [ht]; exact hh_45.2.2.2.2.2.2.2.1.sub [0, 1, 2, 3, 4, 5, 6, 7, 8] rfl⟩⟩, by rw [ht]; try exact hh_45.1.1, fun q h9 hq => by rw [ht]; try exact hh_45.1.2.1 q h9 hq⟩) hh_45.1.2.2 dX13_others_199
            · skip
              have c_50' : qu_45.toInt = 0 := jb_ne_n (rfl) ((by decide)) c_50
              exact (by omega : False).elim
        · skip
          have c_48' : z_47.toInt = 8 := jb_ne_n (rfl) ((by decide)) c_48
          refine lv_aload_n hx hb dX13_others_89 rfl (lv_at hl 0 rfl) ?_
          refine lv_bipush (v := 9) hx hb dX13_others_90 (by decide) ?_
          refine va_callv (A0 := jA base) (H0 := s.heap) (va_runV (As := [.int 9]) (rest := []) ⟨hx, hb, hml, hown, hts⟩ (uX13_failsK l dC dI ca base B hB hAp hB15 G0 H_45 r0 9 qu_45) (cwV 1 hts (jgV (jWr_64 _ (List.mem_of_getElem? (i := 19) rfl)) (jWr_64 _ (List.mem_of_getElem? (i := 20) rfl)) (jWr_64 _ (List.mem_of_getElem? (i := 21) rfl)) (jWr_12 _ (List.mem_of_getElem? (i := 12) rfl)) (jWr_64 _ (List.mem_of_getElem? (i := 22) rfl))) rfl rfl rfl (by decide +kernel) ⟨by rw [← hR]; exact Nat.le_of_ble_eq_true rfl, by rw [← hR]; exact Nat.le_of_ble_eq_true rfl⟩) ⟨fun a U g mk q => by obtain ⟨q0, q1, q2, qK, q10, q11, q12⟩ := q; exact ⟨q0, q1, q2, jG.calling g mk a qK, q10, q11, q12⟩, hh_45.recv (C := RX13) (T := TX13) (N := 50) hB15 rfl (by decide) hg_r0 hK, fun U hU hW => ⟨rfl, hU, hh_45.2.1, hG.step hW hU hh_45.1, hg_r0, (hh_45.2.2.1.sub (L1 := [(r0, 15, 34, .int qu_45)]) [0] rfl), by first | omega | (refine ⟨?_, ?_, ?_, ?_⟩ <;> (first | omega | rfl | assumption | decide | exact Or.inl rfl | exact Or.inr rfl | (simp only; omega)))⟩⟩ rfl rfl hl.1 rfl (lv_room (Nat.le_of_ble_eq_true rfl)) dX13_others_92 ⟨Nat.zero_le _, Nat.zero_le _⟩) hh_45.1 (fun q _ h => h) (fun q h => h) (fun u_51 t_51 H_51 locs_51 ht_51 hvm_51 hr_52 hb_51 hz_51 hk_51 hS_51 => ?_)
          obtain ⟨qu_51, rfl⟩ : ∃ z, z = u_51 := ⟨_, rfl⟩
          rw [ht_51] at hb_51
          obtain ⟨hb_511, hb_512, hb_513, hb_514, hb_515⟩ := hb_51
          have hh_51 : jSt (dC, dI) B base G0 G0 EX13_others s.heap 0 0 [(r0, 15, 34, .int qu_51), (r0, 15, 5, .int pn), (r0, 15, 11, .int py), (r0, 15, 21, .int pg), (r0, 15, 22, .ref zg), (r0, 15, 25, .ref zh), (r0, 15, 27, .ref zp), (r0, 15, 0, .ref zs), (r0, 15, 1, .ref zn), (r0, 15, 2, .ref za), (r0, 15, 3, .ref zb), (r0, 15, 4, .ref zc), (r0, 15, 14, .ref zy)] [(zg, 161, 46, ca 1, fg), (zh, 159, 46, ca 1, fh), (zp, 162, 368, ca 1, fp), (zs, 150, 120000, ca 1, C.s), (zn, 151, 120000, ca 1, C.n), (za, 152, 120000, ca 1, C.a), (zb, 153, 120000, ca 1, C.b), (zc, 154, 120000, ca 1, C.c), (zy, 165, 16, ca 1, C.y)] [] H_51 locs_51 := ((hh_45.call hb_511 hb_512 hb_513 hb_514 hS_51 rfl (L1 := [(r0, 15, 5, .int pn), (r0, 15, 11, .int py), (r0, 15, 21, .int pg), (r0, 15, 22, .ref zg), (r0, 15, 25, .ref zh), (r0, 15, 27, .ref zp), (r0, 15, 0, .ref zs), (r0, 15, 1, .ref zn), (r0, 15, 2, .ref za), (r0, 15, 3, .ref zb), (r0, 15, 4, .ref zc), (r0, 15, 14, .ref zy)]) [1, 2, 3, 4, 5, 6, 7, 8, 9, 10, 11, 12] rfl rfl (M1 := [(zg, 161, 46, ca 1, fg), (zh, 159, 46, ca 1, fh), (zp, 162, 368, ca 1, fp), (zs, 150, 120000, ca 1, C.s), (zn, 151, 120000, ca 1, C.n), (za, 152, 120000, ca 1, C.a), (zb, 153, 120000, ca 1, C.b), (zc, 154, 120000, ca 1, C.c), (zy, 165, 16, ca 1, C.y)]) [0, 1, 2, 3, 4, 5, 6, 7, 8] rfl rfl (I1 := []) [] rfl rfl).more hb_515)
          clear hh_45 ht_51 hvm_51 hz_51 hk_51 hS_51 hb_511 hb_512 hb_513 hb_514 hb_515
          obtain ⟨hr_52_0, hr_52_1, hr_52_2, hr_52_3⟩ := hr_52
          refine lv_aload_n hx hb dX13_others_95 rfl (lv_at hl 0 rfl) ?_
          refine j7_read hx hb hown hK (C := RX13) (T := TX13) (N := 50) rfl hly_15_34 hlk_221 (hh_51.at 0 rfl) dX13_others_96 ?_
          refine lv_if_le (tgt := 106) hx hb dX13_others_99 (by decide) (fun c_53 => ?_) (fun c_53 => ?_)
          · skip
            have c_53' : qu_51.toInt ≤ 0 := jb_le (rfl) ((by decide)) c_53
            exact (by omega : False).elim
          · skip
            have c_53' : qu_51.toInt > 0 := jb_le_n (rfl) ((by decide)) c_53
            refine lv_iconst (v := 0) hx hb dX13_others_102 (by decide) ?_
            refine lv_goto (tgt := 112) hx hb dX13_others_103 (by decide) ?_
            refine lv_istore (lv' := [(6, .int 0), (0, .ref r0), (1, .int a1), (2, .int a2), (3, .int a3), (4, .int a4), (5, .int a5)]) hx hb dX13_others_112 hl (by decide) rfl (fun ls hl => ?_)
            refine lv_aload_n hx hb dX13_others_114 rfl (lv_at hl 1 rfl) ?_
            refine j7_read hx hb hown hK (C := RX13) (T := TX13) (N := 50) rfl hly_15_34 hlk_221 (hh_51.at 0 rfl) dX13_others_115 ?_
            refine lv_if_ne (tgt := 132) hx hb dX13_others_118 (by decide) (fun c_54 => ?_) (fun c_54 => ?_)
            · skip
              have c_54' : qu_51.toInt ≠ 0 := jb_ne (rfl) ((by decide)) c_54
              refine lv_goto (tgt := 199) hx hb dX13_others_132 (by decide) ?_
              rw [hQ]
              exact W.vret hx hb hr (fun t ht hW => ⟨⟨(pn, qu_51, pg, fg, fh, fp, C), rfl, by (try dsimp only); exact ⟨by omega, by omega, by omega, by omega, by omega, by omega, jAgK.rf _ _, hp0⟩, ⟨hh_51.rt (M1 := [(r0, 15, 5, .int pn), (r0, 15, 34, .int qu_51), (r0, 15, 21, .int pg)]) [1, 0, 3] rfl ht, by rw [ht]; exact hh_51.2.2.2.2.2.2.2.1.sub [0, 1, 2, 3, 4, 5, 6, 7, 8] rfl⟩⟩, by rw [ht]; try exact hh_51.1.1, fun q h9 hq => by rw [ht]; try exact hh_51.1.2.1 q h9 hq⟩) hh_51.1.2.2 dX13_others_199
            · skip
              have c_54' : qu_51.toInt = 0 := jb_ne_n (rfl) ((by decide)) c_54
              exact (by omega : False).elim
  · skip
    have c_1' : a1.toInt = 14 := jb_ne_n (rfl) ((by decide)) c_1
    refine lv_iload hx hb dX13_others_6 (lv_at hl 5 rfl) ?_
    refine lv_iconst (v := 5) hx hb dX13_others_8 (by decide) ?_
    refine lv_icmp_eq (tgt := 18) hx hb dX13_others_9 (by decide) (fun c_55 => ?_) (fun c_55 => ?_)
    · skip
      have c_55' : a5.toInt = 5 := jb_eq (rfl) ((by decide)) c_55
      refine lv_aload_n hx hb dX13_others_18 rfl (lv_at hl 0 rfl) ?_
      refine j7_read hx hb hown hK (C := RX13) (T := TX13) (N := 50) rfl hly_15_34 hlk_221 (hh.at 1 rfl) dX13_others_19 ?_
      refine lv_if_le (tgt := 29) hx hb dX13_others_22 (by decide) (fun c_56 => ?_) (fun c_56 => ?_)
      · skip
        have c_56' : pu.toInt ≤ 0 := jb_le (rfl) ((by decide)) c_56
        have g1 := hg0.quant (M := pn.toInt) (jAgK.rf _ _) (Int.le_refl _) (by omega)
        have tt := hp10 (by omega)
        refine lv_aload_n hx hb dX13_others_29 rfl (lv_at hl 0 rfl) ?_
        refine lv_iload hx hb dX13_others_30 (lv_at hl 4 rfl) ?_
        refine lv_iload_n hx hb dX13_others_32 rfl (lv_at hl 3 rfl) ?_
        refine va_calli (A0 := jA base) (H0 := s.heap) (va_runV (As := [.int a4, .int a3]) (rest := []) ⟨hx, hb, hml, hown, hts⟩ (uX13_opened l dC dI ca base B hB hAp hB15 hB150 hB151 hB152 hB153 hB154 hB165 hB169 G0 s.heap r0 a4 a3 pn py pu zs zn za zb zc zy C) (cwV 2 hts (jgV (jWr_66 _ (List.mem_of_getElem? (i := 23) rfl)) (jWr_67 _ (List.mem_of_getElem? (i := 0) rfl)) (jWr_67 _ (List.mem_of_getElem? (i := 1) rfl)) (jWr_12 _ (List.mem_of_getElem? (i := 12) rfl)) (jWr_67 _ (List.mem_of_getElem? (i := 2) rfl))) rfl rfl rfl (by decide +kernel) ⟨by rw [← hR]; exact Nat.le_of_ble_eq_true rfl, by rw [← hR]; exact Nat.le_of_ble_eq_true rfl⟩) ⟨fun a U g mk q => by obtain ⟨q0, q1, q2, qK, q10, q11, q12, q13, q14, q15, q16, q17, q18, q19⟩ := q; exact ⟨q0, q1, q2, jG.calling g mk a qK, q10, q11, q12, q13, q14, q15, q16, q17, q18, q19⟩, hh.recv (C := RX13) (T := TX13) (N := 50) hB15 rfl (by decide) hg_r0 hK, fun U hU hW => ⟨rfl, hU, hh.2.1, hG.step hW hU hh.1, hg_r0, hg_zs, hg_zn, hg_za, hg_zb, hg_zc, hg_zy, (hh.2.2.1.sub (L1 := [(r0, 15, 5, .int pn), (r0, 15, 11, .int py), (r0, 15, 34, .int pu), (r0, 15, 0, .ref zs), (r0, 15, 1, .ref zn), (r0, 15, 2, .ref za), (r0, 15, 3, .ref zb), (r0, 15, 4, .ref zc), (r0, 15, 14, .ref zy)]) [0, 2, 1, 7, 8, 9, 10, 11, 12] rfl), (hh.2.2.2.2.2.2.2.1.sub (L1 := [(zs, 150, 120000, ca 1, C.s), (zn, 151, 120000, ca 1, C.n), (za, 152, 120000, ca 1, C.a), (zb, 153, 120000, ca 1, C.b), (zc, 154, 120000, ca 1, C.c), (zy, 165, 16, ca 1, C.y)]) [3, 4, 5, 6, 7, 8] rfl), ⟨(by first | assumption | exact g1.1 | exact g1.2.1 | exact g1.2.2.1 | exact g1.2.2.2 | exact tt.1 | exact tt.2 | omega), (by first | omega | rfl | assumption | exact g1.1 | exact g1.2.1 | exact g1.2.2.1 | exact g1.2.2.2 | exact tt.1 | exact tt.2), (by first | omega | rfl | assumption | exact g1.1 | exact g1.2.1 | exact g1.2.2.1 | exact g1.2.2.2 | exact tt.1 | exact tt.2), (by first | omega | rfl | assumption | exact g1.1 | exact g1.2.1 | exact g1.2.2.1 | exact g1.2.2.2 | exact tt.1 | exact tt.2), (by first | assumption | exact g1.1 | exact g1.2.1 | exact g1.2.2.1 | exact g1.2.2.2 | exact tt.1 | exact tt.2 | omega), (by first | omega | rfl | assumption | exact g1.1 | exact g1.2.1 | exact g1.2.2.1 | exact g1.2.2.2 | exact tt.1 | exact tt.2), (by first | omega | rfl | assumption | exact g1.1 | exact g1.2.1 | exact g1.2.2.1 | exact g1.2.2.2 | exact tt.1 | exact tt.2), (by first | omega | rfl | assumption | exact g1.1 | exact g1.2.1 | exact g1.2.2.1 | exact g1.2.2.2 | exact tt.1 | exact tt.2), (by first | omega | rfl | assumption | exact g1.1 | exact g1.2.1 | exact g1.2.2.1 | exact g1.2.2.2 | exact tt.1 | exact tt.2), (by first | omega | rfl | assumption | exact g1.1 | exact g1.2.1 | exact g1.2.2.1 | exact g1.2.2.2 | exact tt.1 | exact tt.2), (by first | omega | rfl | assumption | exact g1.1 | exact g1.2.1 | exact g1.2.2.1 | exact g1.2.2.2 | exact tt.1 | exact tt.2), (by first | omega | rfl | assumption | exact g1.1 | exact g1.2.1 | exact g1.2.2.1 | exact g1.2.2.2 | exact tt.1 | exact tt.2)⟩⟩⟩ rfl rfl hl.1 rfl (lv_room (Nat.le_of_ble_eq_true rfl)) dX13_others_33 ⟨Nat.zero_le _, Nat.zero_le _⟩) hh.1 (fun q _ h => h) (fun q h => h) (fun r_58 u_57 t_57 H_57 locs_57 ht_57 hvm_57 hr_58 hb_57 hz_57 hk_57 hS_57 => ?_)
        obtain ⟨qn_57, qu_57, D_57⟩ := u_57
        rw [ht_57] at hb_57
        obtain ⟨⟨hb_571, hb_572, hb_573, hb_574, hb_575⟩, hb_576⟩ := hb_57
        have hh_57 : jSt (dC, dI) B base G0 G0 EX13_others s.heap 0 0 [(r0, 15, 5, .int qn_57), (r0, 15, 34, .int qu_57), (r0, 15, 11, .int py), (r0, 15, 21, .int pg), (r0, 15, 22, .ref zg), (r0, 15, 25, .ref zh), (r0, 15, 27, .ref zp), (r0, 15, 0, .ref zs), (r0, 15, 1, .ref zn), (r0, 15, 2, .ref za), (r0, 15, 3, .ref zb), (r0, 15, 4, .ref zc), (r0, 15, 14, .ref zy)] [(zs, 150, 120000, ca 1, D_57.s), (zn, 151, 120000, ca 1, D_57.n), (za, 152, 120000, ca 1, D_57.a), (zb, 153, 120000, ca 1, D_57.b), (zc, 154, 120000, ca 1, D_57.c), (zy, 165, 16, ca 1, D_57.y), (zg, 161, 46, ca 1, fg), (zh, 159, 46, ca 1, fh), (zp, 162, 368, ca 1, fp), (zy, 165, 16, ca 1, C.y)] [] H_57 locs_57 := ((hh.call hb_571 hb_572 hb_573 hb_574 hS_57 rfl (L1 := [(r0, 15, 11, .int py), (r0, 15, 21, .int pg), (r0, 15, 22, .ref zg), (r0, 15, 25, .ref zh), (r0, 15, 27, .ref zp), (r0, 15, 0, .ref zs), (r0, 15, 1, .ref zn), (r0, 15, 2, .ref za), (r0, 15, 3, .ref zb), (r0, 15, 4, .ref zc), (r0, 15, 14, .ref zy)]) [2, 3, 4, 5, 6, 7, 8, 9, 10, 11, 12] rfl rfl (M1 := [(zg, 161, 46, ca 1, fg), (zh, 159, 46, ca 1, fh), (zp, 162, 368, ca 1, fp), (zy, 165, 16, ca 1, C.y)]) [0, 1, 2, 8] rfl rfl (I1 := []) [] rfl rfl).more hb_575).moreM hb_576
        clear hh ht_57 hvm_57 hz_57 hk_57 hS_57 hb_571 hb_572 hb_573 hb_574 hb_575
        clear hb_576
        try simp only at hr_58
        obtain ⟨hr_58_0, hr_58_1, hr_58_2, hr_58_3, hr_58_4, hr_58_5⟩ := hr_58
        refine lv_istore (lv' := [(6, .int r_58), (0, .ref r0), (1, .int a1), (2, .int a2), (3, .int a3), (4, .int a4), (5, .int a5)]) hx hb dX13_others_36 hl (by decide) rfl (fun ls hl => ?_)
        refine lv_aload_n hx hb dX13_others_38 rfl (lv_at hl 1 rfl) ?_
        refine j7_read hx hb hown hK (C := RX13) (T := TX13) (N := 50) rfl hly_15_34 hlk_221 (hh_57.at 1 rfl) dX13_others_39 ?_
        refine lv_if_ne (tgt := 53) hx hb dX13_others_42 (by decide) (fun c_59 => ?_) (fun c_59 => ?_)
        · skip
          have c_59' : qu_57.toInt ≠ 0 := jb_ne (rfl) ((by decide)) c_59
          refine lv_goto (tgt := 199) hx hb dX13_others_53 (by decide) ?_
          rw [hQ]
          exact W.vret hx hb hr (fun t ht hW => ⟨⟨(qn_57, qu_57, pg, fg, fh, fp, D_57), rfl, by (try dsimp only); exact ⟨by omega, by omega, by omega, by omega, by omega, by omega, hr_58_2, hp0.mono (fun x q => q.ag hr_58_2 (by omega))⟩, ⟨hh_57.rt (M1 := [(r0, 15, 5, .int qn_57), (r0, 15, 34, .int qu_57), (r0, 15, 21, .int pg)]) [0, 1, 3] rfl ht, by rw [ht]; exact hh_57.2.2.2.2.2.2.2.1.sub [6, 7, 8, 0, 1, 2, 3, 4, 5] rfl⟩⟩, by rw [ht]; try exact hh_57.1.1, fun q h9 hq => by rw [ht]; try exact hh_57.1.2.1 q h9 hq⟩) hh_57.1.2.2 dX13_others_199
        · skip
          have c_59' : qu_57.toInt = 0 := jb_ne_n (rfl) ((by decide)) c_59
          have hb5 := (hr_58_5 (by omega)).1.nd
          have hb6 := hb5.1
          have hb7 := hb5.2.1
          refine lv_aload_n hx hb dX13_others_45 rfl (lv_at hl 1 rfl) ?_
          refine j7_read hx hb hown hK (C := RX13) (T := TX13) (N := 50) rfl hly_15_22 hlk_53 (hh_57.at 4 rfl) dX13_others_46 ?_
          refine lv_iconst (v := 0) hx hb dX13_others_49 (by decide) ?_
          refine lv_iload hx hb dX13_others_50 (lv_at hl 0 rfl) ?_
          refine j7_iastU hx hb hK hh_57 hB hB161 1 rfl (by decide) (by decide) rfl 6 rfl (M1 := [(zs, 150, 120000, ca 1, D_57.s), (zn, 151, 120000, ca 1, D_57.n), (za, 152, 120000, ca 1, D_57.a), (zb, 153, 120000, ca 1, D_57.b), (zc, 154, 120000, ca 1, D_57.c), (zy, 165, 16, ca 1, D_57.y), (zh, 159, 46, ca 1, fh), (zp, 162, 368, ca 1, fp), (zy, 165, 16, ca 1, C.y)]) [0, 1, 2, 3, 4, 5, 7, 8, 9] rfl rfl rfl hg_zg (x := 0) ((by decide)) (by omega) (by first | omega | (refine ⟨?_, ?_⟩ <;> (first | omega | rfl | assumption | decide | exact Or.inl rfl | exact Or.inr rfl | (simp only; omega)))) dX13_others_52 (fun H_60 locs_60 fs_61 hv_60 ho_60 hh_60 => ?_)
          have hv_60 : jSo fs_61 (0) = r_58.toInt := by unfold jSo; rw [hv_60]; try exact rfl
          clear hh_57
          refine lv_goto (tgt := 199) hx hb dX13_others_53 (by decide) ?_
          rw [hQ]
          exact W.vret hx hb hr (fun t ht hW => ⟨⟨(qn_57, qu_57, pg, fs_61, fh, fp, D_57), rfl, by (try dsimp only); exact ⟨by omega, by omega, by omega, by omega, by omega, by omega, hr_58_2, (hp0.mono (fun x q => q.ag hr_58_2 (by omega))).set (jUpd.mk (n := 46) hv_60 ho_60 rfl (by omega)) (hr_58_5 (by omega)) (by omega)⟩, ⟨hh_60.rt (M1 := [(r0, 15, 5, .int qn_57), (r0, 15, 34, .int qu_57), (r0, 15, 21, .int pg)]) [0, 1, 3] rfl ht, by rw [ht]; exact hh_60.2.2.2.2.2.2.2.1.sub [0, 7, 8, 1, 2, 3, 4, 5, 6] rfl⟩⟩, by rw [ht]; try exact hh_60.1.1, fun q h9 hq => by rw [ht]; try exact hh_60.1.2.1 q h9 hq⟩) hh_60.1.2.2 dX13_others_199
      · skip
        have c_56' : pu.toInt > 0 := jb_le_n (rfl) ((by decide)) c_56
        refine lv_iconst (v := 0) hx hb dX13_others_25 (by decide) ?_
        refine lv_goto (tgt := 36) hx hb dX13_others_26 (by decide) ?_
        refine lv_istore (lv' := [(6, .int 0), (0, .ref r0), (1, .int a1), (2, .int a2), (3, .int a3), (4, .int a4), (5, .int a5)]) hx hb dX13_others_36 hl (by decide) rfl (fun ls hl => ?_)
        refine lv_aload_n hx hb dX13_others_38 rfl (lv_at hl 1 rfl) ?_
        refine j7_read hx hb hown hK (C := RX13) (T := TX13) (N := 50) rfl hly_15_34 hlk_221 (hh.at 1 rfl) dX13_others_39 ?_
        refine lv_if_ne (tgt := 53) hx hb dX13_others_42 (by decide) (fun c_62 => ?_) (fun c_62 => ?_)
        · skip
          have c_62' : pu.toInt ≠ 0 := jb_ne (rfl) ((by decide)) c_62
          refine lv_goto (tgt := 199) hx hb dX13_others_53 (by decide) ?_
          rw [hQ]
          exact W.vret hx hb hr (fun t ht hW => ⟨⟨(pn, pu, pg, fg, fh, fp, C), rfl, by (try dsimp only); exact ⟨by omega, by omega, by omega, by omega, by omega, by omega, jAgK.rf _ _, hp0⟩, ⟨hh.rt (M1 := [(r0, 15, 5, .int pn), (r0, 15, 34, .int pu), (r0, 15, 21, .int pg)]) [0, 1, 3] rfl ht, by rw [ht]; exact hh.2.2.2.2.2.2.2.1.sub [0, 1, 2, 3, 4, 5, 6, 7, 8] rfl⟩⟩, by rw [ht]; try exact hh.1.1, fun q h9 hq => by rw [ht]; try exact hh.1.2.1 q h9 hq⟩) hh.1.2.2 dX13_others_199
        · skip
          have c_62' : pu.toInt = 0 := jb_ne_n (rfl) ((by decide)) c_62
          exact (by omega : False).elim
    · skip
      have c_55' : a5.toInt ≠ 5 := jb_eq_n (rfl) ((by decide)) c_55
      refine lv_aload_n hx hb dX13_others_12 rfl (lv_at hl 0 rfl) ?_
      refine lv_bipush (v := 8) hx hb dX13_others_13 (by decide) ?_
      refine va_callv (A0 := jA base) (H0 := s.heap) (va_runV (As := [.int 8]) (rest := []) ⟨hx, hb, hml, hown, hts⟩ (uX13_failsK l dC dI ca base B hB hAp hB15 G0 s.heap r0 8 pu) (cwV 1 hts (jgV (jWr_64 _ (List.mem_of_getElem? (i := 19) rfl)) (jWr_64 _ (List.mem_of_getElem? (i := 20) rfl)) (jWr_64 _ (List.mem_of_getElem? (i := 21) rfl)) (jWr_12 _ (List.mem_of_getElem? (i := 12) rfl)) (jWr_64 _ (List.mem_of_getElem? (i := 22) rfl))) rfl rfl rfl (by decide +kernel) ⟨by rw [← hR]; exact Nat.le_of_ble_eq_true rfl, by rw [← hR]; exact Nat.le_of_ble_eq_true rfl⟩) ⟨fun a U g mk q => by obtain ⟨q0, q1, q2, qK, q10, q11, q12⟩ := q; exact ⟨q0, q1, q2, jG.calling g mk a qK, q10, q11, q12⟩, hh.recv (C := RX13) (T := TX13) (N := 50) hB15 rfl (by decide) hg_r0 hK, fun U hU hW => ⟨rfl, hU, hh.2.1, hG.step hW hU hh.1, hg_r0, (hh.2.2.1.sub (L1 := [(r0, 15, 34, .int pu)]) [1] rfl), by first | omega | (refine ⟨?_, ?_, ?_, ?_⟩ <;> (first | omega | rfl | assumption | decide | exact Or.inl rfl | exact Or.inr rfl | (simp only; omega)))⟩⟩ rfl rfl hl.1 rfl (lv_room (Nat.le_of_ble_eq_true rfl)) dX13_others_15 ⟨Nat.zero_le _, Nat.zero_le _⟩) hh.1 (fun q _ h => h) (fun q h => h) (fun u_63 t_63 H_63 locs_63 ht_63 hvm_63 hr_64 hb_63 hz_63 hk_63 hS_63 => ?_)
      obtain ⟨qu_63, rfl⟩ : ∃ z, z = u_63 := ⟨_, rfl⟩
      rw [ht_63] at hb_63
      obtain ⟨hb_631, hb_632, hb_633, hb_634, hb_635⟩ := hb_63
      have hh_63 : jSt (dC, dI) B base G0 G0 EX13_others s.heap 0 0 [(r0, 15, 34, .int qu_63), (r0, 15, 5, .int pn), (r0, 15, 11, .int py), (r0, 15, 21, .int pg), (r0, 15, 22, .ref zg), (r0, 15, 25, .ref zh), (r0, 15, 27, .ref zp), (r0, 15, 0, .ref zs), (r0, 15, 1, .ref zn), (r0, 15, 2, .ref za), (r0, 15, 3, .ref zb), (r0, 15, 4, .ref zc), (r0, 15, 14, .ref zy)] [(zg, 161, 46, ca 1, fg), (zh, 159, 46, ca 1, fh), (zp, 162, 368, ca 1, fp), (zs, 150, 120000, ca 1, C.s), (zn, 151, 120000, ca 1, C.n), (za, 152, 120000, ca 1, C.a), (zb, 153, 120000, ca 1, C.b), (zc, 154, 120000, ca 1, C.c), (zy, 165, 16, ca 1, C.y)] [] H_63 locs_63 := ((hh.call hb_631 hb_632 hb_633 hb_634 hS_63 rfl (L1 := [(r0, 15, 5, .int pn), (r0, 15, 11, .int py), (r0, 15, 21, .int pg), (r0, 15, 22, .ref zg), (r0, 15, 25, .ref zh), (r0, 15, 27, .ref zp), (r0, 15, 0, .ref zs), (r0, 15, 1, .ref zn), (r0, 15, 2, .ref za), (r0, 15, 3, .ref zb), (r0, 15, 4, .ref zc), (r0, 15, 14, .ref zy)]) [0, 2, 3, 4, 5, 6, 7, 8, 9, 10, 11, 12] rfl rfl (M1 := [(zg, 161, 46, ca 1, fg), (zh, 159, 46, ca 1, fh), (zp, 162, 368, ca 1, fp), (zs, 150, 120000, ca 1, C.s), (zn, 151, 120000, ca 1, C.n), (za, 152, 120000, ca 1, C.a), (zb, 153, 120000, ca 1, C.b), (zc, 154, 120000, ca 1, C.c), (zy, 165, 16, ca 1, C.y)]) [0, 1, 2, 3, 4, 5, 6, 7, 8] rfl rfl (I1 := []) [] rfl rfl).more hb_635)
      clear hh ht_63 hvm_63 hz_63 hk_63 hS_63 hb_631 hb_632 hb_633 hb_634 hb_635
      obtain ⟨hr_64_0, hr_64_1, hr_64_2, hr_64_3⟩ := hr_64
      refine lv_aload_n hx hb dX13_others_18 rfl (lv_at hl 0 rfl) ?_
      refine j7_read hx hb hown hK (C := RX13) (T := TX13) (N := 50) rfl hly_15_34 hlk_221 (hh_63.at 0 rfl) dX13_others_19 ?_
      refine lv_if_le (tgt := 29) hx hb dX13_others_22 (by decide) (fun c_65 => ?_) (fun c_65 => ?_)
      · skip
        have c_65' : qu_63.toInt ≤ 0 := jb_le (rfl) ((by decide)) c_65
        exact (by omega : False).elim
      · skip
        have c_65' : qu_63.toInt > 0 := jb_le_n (rfl) ((by decide)) c_65
        refine lv_iconst (v := 0) hx hb dX13_others_25 (by decide) ?_
        refine lv_goto (tgt := 36) hx hb dX13_others_26 (by decide) ?_
        refine lv_istore (lv' := [(6, .int 0), (0, .ref r0), (1, .int a1), (2, .int a2), (3, .int a3), (4, .int a4), (5, .int a5)]) hx hb dX13_others_36 hl (by decide) rfl (fun ls hl => ?_)
        refine lv_aload_n hx hb dX13_others_38 rfl (lv_at hl 1 rfl) ?_
        refine j7_read hx hb hown hK (C := RX13) (T := TX13) (N := 50) rfl hly_15_34 hlk_221 (hh_63.at 0 rfl) dX13_others_39 ?_
        refine lv_if_ne (tgt := 53) hx hb dX13_others_42 (by decide) (fun c_66 => ?_) (fun c_66 => ?_)
        · skip
          have c_66' : qu_63.toInt ≠ 0 := jb_ne (rfl) ((by decide)) c_66
          refine lv_goto (tgt := 199) hx hb dX13_others_53 (by decide) ?_
          rw [hQ]
          exact W.vret hx hb hr (fun t ht hW => ⟨⟨(pn, qu_63, pg, fg, fh, fp, C), rfl, by (try dsimp only); exact ⟨by omega, by omega, by omega, by omega, by omega, by omega, jAgK.rf _ _, hp0⟩, ⟨hh_63.rt (M1 := [(r0, 15, 5, .int pn), (r0, 15, 34, .int qu_63), (r0, 15, 21, .int pg)]) [1, 0, 3] rfl ht, by rw [ht]; exact hh_63.2.2.2.2.2.2.2.1.sub [0, 1, 2, 3, 4, 5, 6, 7, 8] rfl⟩⟩, by rw [ht]; try exact hh_63.1.1, fun q h9 hq => by rw [ht]; try exact hh_63.1.2.1 q h9 hq⟩) hh_63.1.2.2 dX13_others_199
        · skip
          have c_66' : qu_63.toInt = 0 := jb_ne_n (rfl) ((by decide)) c_66
          exact (by omega : False).elim
set_option maxHeartbeats 4000000 in
set_option maxRecDepth 20000 in
theorem uX13_cases (l : Launch) (dC : Nat → ClassId) (dI : Nat → Nat → Nat) (ca : Nat → ClassId) (base : Nat) (B : jF) (hB : jBok B) (hAp : jAp (dC, dI)) (hB15 : ∀ n G a H, B 15 n G a H ↔ jOb (dC, dI) 15 50 (F15 n G) a H) (hB150 : ∀ n G a H, B 150 n G a H ↔ jAr (dC, dI) (ca 1) (fun j z => True) n a H) (hB151 : ∀ n G a H, B 151 n G a H ↔ jAr (dC, dI) (ca 1) (fun j z => True) n a H) (hB152 : ∀ n G a H, B 152 n G a H ↔ jAr (dC, dI) (ca 1) (fun j z => True) n a H) (hB153 : ∀ n G a H, B 153 n G a H ↔ jAr (dC, dI) (ca 1) (fun j z => True) n a H) (hB154 : ∀ n G a H, B 154 n G a H ↔ jAr (dC, dI) (ca 1) (fun j z => True) n a H) (hB158 : ∀ n G a H, B 158 n G a H ↔ jAr (dC, dI) (ca 1) (fun j z => 0 ≤ z.toInt ∧ z.toInt ≤ 6) n a H) (hB159 : ∀ n G a H, B 159 n G a H ↔ jAr (dC, dI) (ca 1) (fun j z => 0 ≤ z.toInt ∧ z.toInt ≤ 8) n a H) (hB161 : ∀ n G a H, B 161 n G a H ↔ jAr (dC, dI) (ca 1) (fun j z => 0 ≤ z.toInt ∧ z.toInt ≤ 119999) n a H) (hB162 : ∀ n G a H, B 162 n G a H ↔ jAr (dC, dI) (ca 1) (fun j z => 0 ≤ z.toInt ∧ z.toInt ≤ 119999) n a H) (hB163 : ∀ n G a H, B 163 n G a H ↔ jAr (dC, dI) (ca 1) (fun j z => 0 ≤ z.toInt ∧ z.toInt ≤ 1599) n a H) (hB165 : ∀ n G a H, B 165 n G a H ↔ jAr (dC, dI) (ca 1) (fun j z => 0 ≤ z.toInt ∧ z.toInt ≤ 3) n a H) (hB169 : ∀ n G a H, B 169 n G a H ↔ jAr (dC, dI) (ca 1) (fun j z => True) n a H) (G0 : jT) (H0 : Heap) (r0 : Nat) (a1 : Int32) (pn : Int32) (pu : Int32) (py : Int32) (pg : Int32) (zg : Nat) (zh : Nat) (zp : Nat) (zv : Nat) (zs : Nat) (zn : Nat) (za : Nat) (zb : Nat) (zc : Nat) (zy : Nat) (fg : Nat → Int32) (fh : Nat → Int32) (fp : Nat → Int32) (fv : Nat → Int32) (C : jK) : Met l yX13_cases (jw yX13_cases cX13_cases 5 none) ({ frames := 1692, cells := 0, slots := 0, locals := 70849 }) (va_Pc [.ref r0, .int a1] (fun U => U.heap = H0 ∧ jX B base G0 [] H0 ∧ jG dC dI ca base U ∧ G0 r0 = some (15, 0) ∧ G0 zg = some (161, 46) ∧ G0 zh = some (159, 46) ∧ G0 zp = some (162, 368) ∧ G0 zv = some (158, 46) ∧ G0 zs = some (150, 120000) ∧ G0 zn = some (151, 120000) ∧ G0 za = some (152, 120000) ∧ G0 zb = some (153, 120000) ∧ G0 zc = some (154, 120000) ∧ G0 zy = some (165, 16) ∧ jP (dC, dI) G0 H0 [(r0, 15, 5, .int pn), (r0, 15, 34, .int pu), (r0, 15, 11, .int py), (r0, 15, 21, .int pg), (r0, 15, 22, .ref zg), (r0, 15, 25, .ref zh), (r0, 15, 27, .ref zp), (r0, 15, 23, .ref zv), (r0, 15, 0, .ref zs), (r0, 15, 1, .ref zn), (r0, 15, 2, .ref za), (r0, 15, 3, .ref zb), (r0, 15, 4, .ref zc), (r0, 15, 14, .ref zy)] ∧ jMc (dC, dI) G0 H0 [(zg, 161, 46, ca 1, fg), (zh, 159, 46, ca 1, fh), (zp, 162, 368, ca 1, fp), (zv, 158, 46, ca 1, fv), (zs, 150, 120000, ca 1, C.s), (zn, 151, 120000, ca 1, C.n), (za, 152, 120000, ca 1, C.a), (zb, 153, 120000, ca 1, C.b), (zc, 154, 120000, ca 1, C.c), (zy, 165, 16, ca 1, C.y)] ∧ jGl (jG1 C pn.toInt py.toInt) fg fh fp pg.toInt ∧ 1 ≤ pg.toInt ∧ pg.toInt ≤ 6 ∧ pu.toInt = 0 ∧ 0 ≤ pn.toInt ∧ pn.toInt ≤ 119000 ∧ 0 ≤ py.toInt ∧ py.toInt ≤ 16 ∧ 0 ≤ a1.toInt ∧ a1.toInt < jSo fh 0)) (va_Qv (S := Int32 × Int32 × Int32 × (Nat → Int32) × (Nat → Int32) × (Nat → Int32) × jK) (fun u => pn.toInt ≤ u.1.toInt ∧ u.1.toInt ≤ pn.toInt + 90 ∧ 0 ≤ u.2.1.toInt ∧ u.2.1.toInt ≤ 9 ∧ 0 ≤ u.2.2.1.toInt ∧ u.2.2.1.toInt ≤ 6 ∧ jAgK C u.2.2.2.2.2.2 pn.toInt ∧ jGl (jG1 u.2.2.2.2.2.2 u.1.toInt py.toInt) u.2.2.2.1 u.2.2.2.2.1 u.2.2.2.2.2.1 u.2.2.1.toInt) (fun u t => jRt (dC, dI) B base G0 EX13_cases H0 [(r0, 15, 5, .int u.1), (r0, 15, 34, .int u.2.1), (r0, 15, 21, .int u.2.2.1)] t.heap ∧ jMc (dC, dI) G0 t.heap [(zg, 161, 46, ca 1, u.2.2.2.1), (zh, 159, 46, ca 1, u.2.2.2.2.1), (zp, 162, 368, ca 1, u.2.2.2.2.2.1), (zs, 150, 120000, ca 1, u.2.2.2.2.2.2.s), (zn, 151, 120000, ca 1, u.2.2.2.2.2.2.n), (za, 152, 120000, ca 1, u.2.2.2.2.2.2.a), (zb, 153, 120000, ca 1, u.2.2.2.2.2.2.b), (zc, 154, 120000, ca 1, u.2.2.2.2.2.2.c), (zy, 165, 16, ca 1, u.2.2.2.2.2.2.y)]) (jA base)) 0 0 (jA base) := by
  refine Met.ofW (cc := cX13_cases) (maxL := 5) (ret := none) (by decide) rfl ?_
  intro p e s m args below meth c s₁ Bd hml hv
  obtain ⟨rfl, hH0, hX, hG, hg_r0, hg_zg, hg_zh, hg_zp, hg_zv, hg_zs, hg_zn, hg_za, hg_zb, hg_zc, hg_zy, hP0, hM0, hp0, hp1, hp2, hp3, hp4, hp5, hp6, hp7, hp8, hp9⟩ := hv
  have hK := hG.1
  have hx := Bd.exec
  have hb := Bd.bytes
  have hr := Bd.returns
  have hts := atoms_spec (ws := (jw yX13_cases cX13_cases 5 none)) Bd.pre
  have htw : ∀ w ∈ jWl, w.before _ s = true := fun w h => hts w (List.mem_cons_of_mem _ h)
  have hown : s.vm.findClass RX13 = some m.cls := findClass_of_methodNamed Bd.named
  have hlocks := Bd.notSynchronized
  obtain ⟨Q, hQ⟩ : ∃ Q, Q = MQ below (va_Qv (S := Int32 × Int32 × Int32 × (Nat → Int32) × (Nat → Int32) × (Nat → Int32) × jK) (fun u => pn.toInt ≤ u.1.toInt ∧ u.1.toInt ≤ pn.toInt + 90 ∧ 0 ≤ u.2.1.toInt ∧ u.2.1.toInt ≤ 9 ∧ 0 ≤ u.2.2.1.toInt ∧ u.2.2.1.toInt ≤ 6 ∧ jAgK C u.2.2.2.2.2.2 pn.toInt ∧ jGl (jG1 u.2.2.2.2.2.2 u.1.toInt py.toInt) u.2.2.2.1 u.2.2.2.2.1 u.2.2.2.2.2.1 u.2.2.1.toInt) (fun u t => jRt (dC, dI) B base G0 EX13_cases H0 [(r0, 15, 5, .int u.1), (r0, 15, 34, .int u.2.1), (r0, 15, 21, .int u.2.2.1)] t.heap ∧ jMc (dC, dI) G0 t.heap [(zg, 161, 46, ca 1, u.2.2.2.1), (zh, 159, 46, ca 1, u.2.2.2.2.1), (zp, 162, 368, ca 1, u.2.2.2.2.2.1), (zs, 150, 120000, ca 1, u.2.2.2.2.2.2.s), (zn, 151, 120000, ca 1, u.2.2.2.2.2.2.n), (za, 152, 120000, ca 1, u.2.2.2.2.2.2.a), (zb, 153, 120000, ca 1, u.2.2.2.2.2.2.b), (zc, 154, 120000, ca 1, u.2.2.2.2.2.2.c), (zy, 165, 16, ca 1, u.2.2.2.2.2.2.y)]) (jA base)) ([.ref r0, .int a1] : List Value).toArray s 0 0 (jA base) := ⟨_, rfl⟩
  rw [← hQ]
  have hl := lv_entry ([.ref r0, .int a1]) (n := 5) (Nat.le_of_ble_eq_true rfl)
  rw [lg_entry_eq]
  generalize (lg_sl ([.ref r0, .int a1]) ++ List.replicate (5 - (lg_sl ([.ref r0, .int a1])).length) Slot.unset).toArray = ls at hl ⊢
  have hl : lv_has ls 5 [(0, .ref r0), (1, .int a1)] := hl
  generalize hR : (headSpec (jw yX13_cases cX13_cases 5 none) ({ frames := 1692, cells := 0, slots := 0, locals := 70849 })).room = R
  subst hH0
  have hh : jSt (dC, dI) B base G0 G0 EX13_cases s.heap 0 0 [(r0, 15, 5, .int pn), (r0, 15, 34, .int pu), (r0, 15, 11, .int py), (r0, 15, 21, .int pg), (r0, 15, 22, .ref zg), (r0, 15, 25, .ref zh), (r0, 15, 27, .ref zp), (r0, 15, 23, .ref zv), (r0, 15, 0, .ref zs), (r0, 15, 1, .ref zn), (r0, 15, 2, .ref za), (r0, 15, 3, .ref zb), (r0, 15, 4, .ref zc), (r0, 15, 14, .ref zy)] [(zg, 161, 46, ca 1, fg), (zh, 159, 46, ca 1, fh), (zp, 162, 368, ca 1, fp), (zv, 158, 46, ca 1, fv), (zs, 150, 120000, ca 1, C.s), (zn, 151, 120000, ca 1, C.n), (za, 152, 120000, ca 1, C.a), (zb, 153, 120000, ca 1, C.b), (zc, 154, 120000, ca 1, C.c), (zy, 165, 16, ca 1, C.y)] [] s.heap [] := jSt.start hX hP0 hM0 jIs.nil
  clear hX hP0
  have hk0 : (0 : Int32).toInt = 0 := by decide
  have hk1 : (1 : Int32).toInt = 1 := by decide
  have hk2 : (2 : Int32).toInt = 2 := by decide
  have hk5 : (5 : Int32).toInt = 5 := by decide
  have hk6 : (6 : Int32).toInt = 6 := by decide
  have hk8 : (8 : Int32).toInt = 8 := by decide
  have hk9 : (9 : Int32).toInt = 9 := by decide
  have hly_15_0 := htw (u_lay RX13 TX13 0) (jWc_wsX130 _ (u_in_lay (by decide)))
  have hly_15_2 := htw (u_lay RX13 TX13 2) (jWc_wsX130 _ (u_in_lay (by decide)))
  have hly_15_3 := htw (u_lay RX13 TX13 3) (jWc_wsX130 _ (u_in_lay (by decide)))
  have hly_15_23 := htw (u_lay RX13 TX13 23) (jWc_wsX130 _ (u_in_lay (by decide)))
  have hly_15_24 := htw (u_lay RX13 TX13 24) (jWc_wsX130 _ (u_in_lay (by decide)))
  have hly_15_25 := htw (u_lay RX13 TX13 25) (jWc_wsX130 _ (u_in_lay (by decide)))
  have hly_15_27 := htw (u_lay RX13 TX13 27) (jWc_wsX130 _ (u_in_lay (by decide)))
  have hly_15_34 := htw (u_lay RX13 TX13 34) (jWc_wsX130 _ (u_in_lay (by decide)))
  have hly_15_39 := htw (u_lay RX13 TX13 39) (jWc_wsX130 _ (u_in_lay (by decide)))
  have hly_15_40 := htw (u_lay RX13 TX13 40) (jWc_wsX130 _ (u_in_lay (by decide)))
  have hlk_68 := (htw (.fieldLink RX13 68 "ProofServerModel$Kernel" "hyp" "[I") (jWr_15 _ (List.mem_of_getElem? (i := 3) rfl)))
  have hlk_12 := (htw (.fieldLink RX13 12 "ProofServerModel$Kernel" "sort" "[I") (jWr_14 _ (List.mem_of_getElem? (i := 9) rfl)))
  have hlk_62 := (htw (.fieldLink RX13 62 "ProofServerModel$Kernel" "hyps" "[I") (jWr_15 _ (List.mem_of_getElem? (i := 1) rfl)))
  have hlk_221 := (htw (.fieldLink RX13 221 "ProofServerModel$Kernel" "fault" "I") (jWr_60 _ (List.mem_of_getElem? (i := 3) rfl)))
  have hlk_303 := (htw (.fieldLink RX13 303 "ProofServerModel$Kernel" "name2" "I") (jWr_61 _ (List.mem_of_getElem? (i := 15) rfl)))
  have hlk_19 := (htw (.fieldLink RX13 19 "ProofServerModel$Kernel" "one" "[I") (jWr_14 _ (List.mem_of_getElem? (i := 11) rfl)))
  have hlk_306 := (htw (.fieldLink RX13 306 "ProofServerModel$Kernel" "name3" "I") (jWr_61 _ (List.mem_of_getElem? (i := 16) rfl)))
  have hlk_22 := (htw (.fieldLink RX13 22 "ProofServerModel$Kernel" "two" "[I") (jWr_14 _ (List.mem_of_getElem? (i := 12) rfl)))
  have hlk_56 := (htw (.fieldLink RX13 56 "ProofServerModel$Kernel" "vars" "[I") (jWr_14 _ (List.mem_of_getElem? (i := 23) rfl)))
  have hlk_59 := (htw (.fieldLink RX13 59 "ProofServerModel$Kernel" "varName" "[I") (jWr_15 _ (List.mem_of_getElem? (i := 0) rfl)))
  have hrg_a1 := jb_rng a1
  have hs0 := hp0 0 (by omega) (by omega)
  have h80 := hs0.2.2.1
  have hf := hs0.2.2.2 a1.toInt (by omega) (by omega)
  rw [show (8 : Int) * 0 + a1.toInt = a1.toInt by omega] at hf
  have hfr := hf.rng
  obtain ⟨kk0, hkk0⟩ : ∃ z, z = jSo fh 0 := ⟨_, rfl⟩
  refine lv_aload_n hx hb dX13_cases_0 rfl (lv_at hl 0 rfl) ?_
  refine j7_read hx hb hown hK (C := RX13) (T := TX13) (N := 50) rfl hly_15_27 hlk_68 (hh.at 6 rfl) dX13_cases_1 ?_
  refine lv_iload_n hx hb dX13_cases_4 rfl (lv_at hl 1 rfl) ?_
  refine j7_ialdM hx hb hK hh hB162 1 rfl (by decide) hg_zp (x := a1.toInt) (rfl) (by omega) (j := 2) rfl dX13_cases_5 (fun z_1 ez_1 (hz_1 : 0 ≤ z_1.toInt ∧ z_1.toInt ≤ 119999) => ?_)
  have hqz_1 : z_1.toInt = jSo fp (a1.toInt) := by unfold jSo; rw [ez_1]
  refine lv_istore_n (lv' := [(2, .int z_1), (0, .ref r0), (1, .int a1)]) hx hb dX13_cases_6 rfl hl (by decide) rfl (fun ls hl => ?_)
  refine lv_aload_n hx hb dX13_cases_7 rfl (lv_at hl 1 rfl) ?_
  refine j7_read hx hb hown hK (C := RX13) (T := TX13) (N := 50) rfl hly_15_0 hlk_12 (hh.at 8 rfl) dX13_cases_8 ?_
  refine lv_iload_n hx hb dX13_cases_11 rfl (lv_at hl 0 rfl) ?_
  refine j7_ialdM hx hb hK hh hB150 1 rfl (by decide) hg_zs (x := z_1.toInt) (rfl) (by omega) (j := 4) rfl dX13_cases_12 (fun z_2 ez_2 (hz_2 : True) => ?_)
  have hqz_2 : z_2.toInt = jSo C.s (z_1.toInt) := by unfold jSo; rw [ez_2]
  refine lv_istore_n (lv' := [(3, .int z_2), (2, .int z_1), (0, .ref r0), (1, .int a1)]) hx hb dX13_cases_13 rfl hl (by decide) rfl (fun ls hl => ?_)
  rw [hqz_1] at hqz_2
  refine lv_iload_n hx hb dX13_cases_14 rfl (lv_at hl 0 rfl) ?_
  refine lv_iconst (v := 1) hx hb dX13_cases_15 (by decide) ?_
  refine lv_icmp_ne (tgt := 83) hx hb dX13_cases_16 (by decide) (fun c_3 => ?_) (fun c_3 => ?_)
  · skip
    have c_3' : z_2.toInt ≠ 1 := jb_ne (rfl) ((by decide)) c_3
    refine lv_iload_n hx hb dX13_cases_83 rfl (lv_at hl 0 rfl) ?_
    refine lv_iconst (v := 2) hx hb dX13_cases_84 (by decide) ?_
    refine lv_icmp_ne (tgt := 168) hx hb dX13_cases_85 (by decide) (fun c_4 => ?_) (fun c_4 => ?_)
    · skip
      have c_4' : z_2.toInt ≠ 2 := jb_ne (rfl) ((by decide)) c_4
      refine lv_iload_n hx hb dX13_cases_168 rfl (lv_at hl 0 rfl) ?_
      refine lv_iconst (v := 5) hx hb dX13_cases_169 (by decide) ?_
      refine lv_icmp_ne (tgt := 271) hx hb dX13_cases_170 (by decide) (fun c_5 => ?_) (fun c_5 => ?_)
      · skip
        have c_5' : z_2.toInt ≠ 5 := jb_ne (rfl) ((by decide)) c_5
        refine lv_aload_n hx hb dX13_cases_271 rfl (lv_at hl 2 rfl) ?_
        refine lv_bipush (v := 8) hx hb dX13_cases_272 (by decide) ?_
        refine va_callv (A0 := jA base) (H0 := s.heap) (va_runV (As := [.int 8]) (rest := []) ⟨hx, hb, hml, hown, hts⟩ (uX13_failsK l dC dI ca base B hB hAp hB15 G0 s.heap r0 8 pu) (cwV 1 hts (jgV (jWr_64 _ (List.mem_of_getElem? (i := 19) rfl)) (jWr_64 _ (List.mem_of_getElem? (i := 20) rfl)) (jWr_64 _ (List.mem_of_getElem? (i := 21) rfl)) (jWr_12 _ (List.mem_of_getElem? (i := 12) rfl)) (jWr_64 _ (List.mem_of_getElem? (i := 22) rfl))) rfl rfl rfl (by decide +kernel) ⟨by rw [← hR]; exact Nat.le_of_ble_eq_true rfl, by rw [← hR]; exact Nat.le_of_ble_eq_true rfl⟩) ⟨fun a U g mk q => by obtain ⟨q0, q1, q2, qK, q10, q11, q12⟩ := q; exact ⟨q0, q1, q2, jG.calling g mk a qK, q10, q11, q12⟩, hh.recv (C := RX13) (T := TX13) (N := 50) hB15 rfl (by decide) hg_r0 hK, fun U hU hW => ⟨rfl, hU, hh.2.1, hG.step hW hU hh.1, hg_r0, (hh.2.2.1.sub (L1 := [(r0, 15, 34, .int pu)]) [1] rfl), by first | omega | (refine ⟨?_, ?_, ?_, ?_⟩ <;> (first | omega | rfl | assumption | decide | exact Or.inl rfl | exact Or.inr rfl | (simp only; omega)))⟩⟩ rfl rfl hl.1 rfl (lv_room (Nat.le_of_ble_eq_true rfl)) dX13_cases_274 ⟨Nat.zero_le _, Nat.zero_le _⟩) hh.1 (fun q _ h => h) (fun q h => h) (fun u_6 t_6 H_6 locs_6 ht_6 hvm_6 hr_7 hb_6 hz_6 hk_6 hS_6 => ?_)
        obtain ⟨qu_6, rfl⟩ : ∃ z, z = u_6 := ⟨_, rfl⟩
        rw [ht_6] at hb_6
        obtain ⟨hb_61, hb_62, hb_63, hb_64, hb_65⟩ := hb_6
        have hh_6 : jSt (dC, dI) B base G0 G0 EX13_cases s.heap 0 0 [(r0, 15, 34, .int qu_6), (r0, 15, 5, .int pn), (r0, 15, 11, .int py), (r0, 15, 21, .int pg), (r0, 15, 22, .ref zg), (r0, 15, 25, .ref zh), (r0, 15, 27, .ref zp), (r0, 15, 23, .ref zv), (r0, 15, 0, .ref zs), (r0, 15, 1, .ref zn), (r0, 15, 2, .ref za), (r0, 15, 3, .ref zb), (r0, 15, 4, .ref zc), (r0, 15, 14, .ref zy)] [(zg, 161, 46, ca 1, fg), (zh, 159, 46, ca 1, fh), (zp, 162, 368, ca 1, fp), (zv, 158, 46, ca 1, fv), (zs, 150, 120000, ca 1, C.s), (zn, 151, 120000, ca 1, C.n), (za, 152, 120000, ca 1, C.a), (zb, 153, 120000, ca 1, C.b), (zc, 154, 120000, ca 1, C.c), (zy, 165, 16, ca 1, C.y)] [] H_6 locs_6 := ((hh.call hb_61 hb_62 hb_63 hb_64 hS_6 rfl (L1 := [(r0, 15, 5, .int pn), (r0, 15, 11, .int py), (r0, 15, 21, .int pg), (r0, 15, 22, .ref zg), (r0, 15, 25, .ref zh), (r0, 15, 27, .ref zp), (r0, 15, 23, .ref zv), (r0, 15, 0, .ref zs), (r0, 15, 1, .ref zn), (r0, 15, 2, .ref za), (r0, 15, 3, .ref zb), (r0, 15, 4, .ref zc), (r0, 15, 14, .ref zy)]) [0, 2, 3, 4, 5, 6, 7, 8, 9, 10, 11, 12, 13] rfl rfl (M1 := [(zg, 161, 46, ca 1, fg), (zh, 159, 46, ca 1, fh), (zp, 162, 368, ca 1, fp), (zv, 158, 46, ca 1, fv), (zs, 150, 120000, ca 1, C.s), (zn, 151, 120000, ca 1, C.n), (za, 152, 120000, ca 1, C.a), (zb, 153, 120000, ca 1, C.b), (zc, 154, 120000, ca 1, C.c), (zy, 165, 16, ca 1, C.y)]) [0, 1, 2, 3, 4, 5, 6, 7, 8, 9] rfl rfl (I1 := []) [] rfl rfl).more hb_65)
        clear hh ht_6 hvm_6 hz_6 hk_6 hS_6 hb_61 hb_62 hb_63 hb_64 hb_65
        obtain ⟨hr_7_0, hr_7_1, hr_7_2, hr_7_3⟩ := hr_7
        rw [hQ]
        exact W.vret hx hb hr (fun t ht hW => ⟨⟨(pn, qu_6, pg, fg, fh, fp, C), rfl, by (try dsimp only); exact ⟨by omega, by omega, by omega, by omega, by omega, by omega, jAgK.rf _ _, hp0⟩, ⟨hh_6.rt (M1 := [(r0, 15, 5, .int pn), (r0, 15, 34, .int qu_6), (r0, 15, 21, .int pg)]) [1, 0, 3] rfl ht, by rw [ht]; exact hh_6.2.2.2.2.2.2.2.1.sub [0, 1, 2, 4, 5, 6, 7, 8, 9] rfl⟩⟩, by rw [ht]; try exact hh_6.1.1, fun q h9 hq => by rw [ht]; try exact hh_6.1.2.1 q h9 hq⟩) hh_6.1.2.2 dX13_cases_277
      · skip
        have c_5' : z_2.toInt = 5 := jb_ne_n (rfl) ((by decide)) c_5
        refine lv_aload_n hx hb dX13_cases_173 rfl (lv_at hl 2 rfl) ?_
        refine j7_read hx hb hown hK (C := RX13) (T := TX13) (N := 50) rfl hly_15_23 hlk_56 (hh.at 7 rfl) dX13_cases_174 ?_
        refine lv_iconst (v := 0) hx hb dX13_cases_177 (by decide) ?_
        refine j7_ialdM hx hb hK hh hB158 1 rfl (by decide) hg_zv (x := 0) ((by decide)) (by omega) (j := 3) rfl dX13_cases_178 (fun z_8 ez_8 (hz_8 : 0 ≤ z_8.toInt ∧ z_8.toInt ≤ 6) => ?_)
        have hqz_8 : z_8.toInt = jSo fv (0) := by unfold jSo; rw [ez_8]
        refine lv_bipush (v := 6) hx hb dX13_cases_179 (by decide) ?_
        refine lv_icmp_ne (tgt := 190) hx hb dX13_cases_181 (by decide) (fun c_9 => ?_) (fun c_9 => ?_)
        · skip
          have c_9' : z_8.toInt ≠ 6 := jb_ne (rfl) ((by decide)) c_9
          refine lv_aload_n hx hb dX13_cases_190 rfl (lv_at hl 2 rfl) ?_
          refine j7_read hx hb hown hK (C := RX13) (T := TX13) (N := 50) rfl hly_15_34 hlk_221 (hh.at 1 rfl) dX13_cases_191 ?_
          refine lv_if_le (tgt := 198) hx hb dX13_cases_194 (by decide) (fun c_10 => ?_) (fun c_10 => ?_)
          · skip
            have c_10' : pu.toInt ≤ 0 := jb_le (rfl) ((by decide)) c_10
            refine lv_aload_n hx hb dX13_cases_198 rfl (lv_at hl 2 rfl) ?_
            refine lv_iload_n hx hb dX13_cases_199 rfl (lv_at hl 1 rfl) ?_
            refine lv_aload_n hx hb dX13_cases_200 rfl (lv_at hl 2 rfl) ?_
            refine lv_bipush (v := 9) hx hb dX13_cases_201 (by decide) ?_
            refine lv_aload_n hx hb dX13_cases_203 rfl (lv_at hl 2 rfl) ?_
            obtain ⟨v_11, hv_11, hh_12⟩ := hh.pin (C := RX13) (T := TX13) (N := 50) hB15 rfl (by decide) hg_r0 (i := 39) (by decide) rfl
            clear hh
            obtain ⟨name2_13, rfl, hloname2_13, hhiname2_13⟩ := hv_11
            refine j7_read hx hb hown hK (C := RX13) (T := TX13) (N := 50) rfl hly_15_39 hlk_303 (hh_12.at 0 rfl) dX13_cases_204 ?_
            refine lv_iconst (v := 0) hx hb dX13_cases_207 (by decide) ?_
            refine lv_iconst (v := 0) hx hb dX13_cases_208 (by decide) ?_
            refine lv_iconst (v := 0) hx hb dX13_cases_209 (by decide) ?_
            refine va_calli (A0 := jA base) (H0 := s.heap) (va_runV (As := [.int 9, .int name2_13, .int 0, .int 0, .int 0]) (rest := [.int z_1, .ref r0]) ⟨hx, hb, hml, hown, hts⟩ (uX13_nodeK l dC dI ca base B hB hAp hB15 hB150 hB151 hB152 hB153 hB154 hB165 G0 s.heap r0 9 name2_13 0 0 0 pn zs zn za zb zc zy C) (cwV 5 hts (jgV (jWr_62 _ (List.mem_of_getElem? (i := 9) rfl)) (jWr_62 _ (List.mem_of_getElem? (i := 10) rfl)) (jWr_62 _ (List.mem_of_getElem? (i := 11) rfl)) (jWr_12 _ (List.mem_of_getElem? (i := 12) rfl)) (jWr_62 _ (List.mem_of_getElem? (i := 12) rfl))) rfl rfl rfl (by decide +kernel) ⟨by rw [← hR]; exact Nat.le_of_ble_eq_true rfl, by rw [← hR]; exact Nat.le_of_ble_eq_true rfl⟩) ⟨fun a U g mk q => by obtain ⟨q0, q1, q2, qK, q10, q11, q12, q13, q14, q15, q16, q17, q18, q19⟩ := q; exact ⟨q0, q1, q2, jG.calling g mk a qK, q10, q11, q12, q13, q14, q15, q16, q17, q18, q19⟩, hh_12.recv (C := RX13) (T := TX13) (N := 50) hB15 rfl (by decide) hg_r0 hK, fun U hU hW => ⟨rfl, hU, hh_12.2.1, hG.step hW hU hh_12.1, hg_r0, hg_zs, hg_zn, hg_za, hg_zb, hg_zc, hg_zy, (hh_12.2.2.1.sub (L1 := [(r0, 15, 5, .int pn), (r0, 15, 0, .ref zs), (r0, 15, 1, .ref zn), (r0, 15, 2, .ref za), (r0, 15, 3, .ref zb), (r0, 15, 4, .ref zc), (r0, 15, 14, .ref zy)]) [1, 9, 10, 11, 12, 13, 14] rfl), (hh_12.2.2.2.2.2.2.2.1.sub (L1 := [(zs, 150, 120000, ca 1, C.s), (zn, 151, 120000, ca 1, C.n), (za, 152, 120000, ca 1, C.a), (zb, 153, 120000, ca 1, C.b), (zc, 154, 120000, ca 1, C.c), (zy, 165, 16, ca 1, C.y)]) [4, 5, 6, 7, 8, 9] rfl), by first | omega | (refine ⟨?_, ?_⟩ <;> (first | omega | rfl | assumption | decide | exact Or.inl rfl | exact Or.inr rfl | (simp only; omega)))⟩⟩ rfl rfl hl.1 rfl (lv_room (Nat.le_of_ble_eq_true rfl)) dX13_cases_210 ⟨Nat.zero_le _, Nat.zero_le _⟩) hh_12.1 (fun q _ h => h) (fun q h => h) (fun r_15 u_14 t_14 H_14 locs_14 ht_14 hvm_14 hr_15 hb_14 hz_14 hk_14 hS_14 => ?_)
            obtain ⟨qn_14, D_14⟩ := u_14
            rw [ht_14] at hb_14
            obtain ⟨⟨hb_141, hb_142, hb_143, hb_144, hb_145⟩, hb_146⟩ := hb_14
            have hh_14 : jSt (dC, dI) B base G0 G0 EX13_cases s.heap 0 0 [(r0, 15, 5, .int qn_14), (r0, 15, 39, .int name2_13), (r0, 15, 34, .int pu), (r0, 15, 11, .int py), (r0, 15, 21, .int pg), (r0, 15, 22, .ref zg), (r0, 15, 25, .ref zh), (r0, 15, 27, .ref zp), (r0, 15, 23, .ref zv), (r0, 15, 0, .ref zs), (r0, 15, 1, .ref zn), (r0, 15, 2, .ref za), (r0, 15, 3, .ref zb), (r0, 15, 4, .ref zc), (r0, 15, 14, .ref zy)] [(zs, 150, 120000, ca 1, D_14.s), (zn, 151, 120000, ca 1, D_14.n), (za, 152, 120000, ca 1, D_14.a), (zb, 153, 120000, ca 1, D_14.b), (zc, 154, 120000, ca 1, D_14.c), (zy, 165, 16, ca 1, D_14.y), (zg, 161, 46, ca 1, fg), (zh, 159, 46, ca 1, fh), (zp, 162, 368, ca 1, fp), (zv, 158, 46, ca 1, fv), (zy, 165, 16, ca 1, C.y)] [] H_14 locs_14 := ((hh_12.call hb_141 hb_142 hb_143 hb_144 hS_14 rfl (L1 := [(r0, 15, 39, .int name2_13), (r0, 15, 34, .int pu), (r0, 15, 11, .int py), (r0, 15, 21, .int pg), (r0, 15, 22, .ref zg), (r0, 15, 25, .ref zh), (r0, 15, 27, .ref zp), (r0, 15, 23, .ref zv), (r0, 15, 0, .ref zs), (r0, 15, 1, .ref zn), (r0, 15, 2, .ref za), (r0, 15, 3, .ref zb), (r0, 15, 4, .ref zc), (r0, 15, 14, .ref zy)]) [0, 2, 3, 4, 5, 6, 7, 8, 9, 10, 11, 12, 13, 14] rfl rfl (M1 := [(zg, 161, 46, ca 1, fg), (zh, 159, 46, ca 1, fh), (zp, 162, 368, ca 1, fp), (zv, 158, 46, ca 1, fv), (zy, 165, 16, ca 1, C.y)]) [0, 1, 2, 3, 9] rfl rfl (I1 := []) [] rfl rfl).more hb_145).moreM hb_146
            clear hh_12 ht_14 hvm_14 hz_14 hk_14 hS_14 hb_141 hb_142 hb_143 hb_144 hb_145
            clear hb_146
            try simp only at hr_15
            obtain ⟨hr_15_0, hr_15_1, hr_15_2⟩ := hr_15
            rw [hk9] at hr_15_2
            have v1 := jMk0 (e := 1600) (b := 0) (Y := py.toInt) hr_15_2 (by omega) (by omega) (by omega)
            have g1 := hf.quant (M := pn.toInt + 1) hr_15_2.1 (by omega) (by omega)
            rw [← hqz_1] at g1
            refine va_calli (A0 := jA base) (H0 := s.heap) (va_runV (As := [.int z_1, .int r_15]) (rest := []) ⟨hx, hb, hml, hown, hts⟩ (uX13_opened l dC dI ca base B hB hAp hB15 hB150 hB151 hB152 hB153 hB154 hB165 hB169 G0 H_14 r0 z_1 r_15 qn_14 py pu zs zn za zb zc zy D_14) (cwV 2 hts (jgV (jWr_66 _ (List.mem_of_getElem? (i := 23) rfl)) (jWr_67 _ (List.mem_of_getElem? (i := 0) rfl)) (jWr_67 _ (List.mem_of_getElem? (i := 1) rfl)) (jWr_12 _ (List.mem_of_getElem? (i := 12) rfl)) (jWr_67 _ (List.mem_of_getElem? (i := 2) rfl))) rfl rfl rfl (by decide +kernel) ⟨by rw [← hR]; exact Nat.le_of_ble_eq_true rfl, by rw [← hR]; exact Nat.le_of_ble_eq_true rfl⟩) ⟨fun a U g mk q => by obtain ⟨q0, q1, q2, qK, q10, q11, q12, q13, q14, q15, q16, q17, q18, q19⟩ := q; exact ⟨q0, q1, q2, jG.calling g mk a qK, q10, q11, q12, q13, q14, q15, q16, q17, q18, q19⟩, hh_14.recv (C := RX13) (T := TX13) (N := 50) hB15 rfl (by decide) hg_r0 hK, fun U hU hW => ⟨rfl, hU, hh_14.2.1, hG.step hW hU hh_14.1, hg_r0, hg_zs, hg_zn, hg_za, hg_zb, hg_zc, hg_zy, (hh_14.2.2.1.sub (L1 := [(r0, 15, 5, .int qn_14), (r0, 15, 11, .int py), (r0, 15, 34, .int pu), (r0, 15, 0, .ref zs), (r0, 15, 1, .ref zn), (r0, 15, 2, .ref za), (r0, 15, 3, .ref zb), (r0, 15, 4, .ref zc), (r0, 15, 14, .ref zy)]) [0, 3, 2, 9, 10, 11, 12, 13, 14] rfl), (hh_14.2.2.2.2.2.2.2.1.sub (L1 := [(zs, 150, 120000, ca 1, D_14.s), (zn, 151, 120000, ca 1, D_14.n), (za, 152, 120000, ca 1, D_14.a), (zb, 153, 120000, ca 1, D_14.b), (zc, 154, 120000, ca 1, D_14.c), (zy, 165, 16, ca 1, D_14.y)]) [0, 1, 2, 3, 4, 5] rfl), ⟨(by first | assumption | (rw [hr_15_1]; exact g1.1) | (rw [hr_15_1]; exact g1.2.1) | exact g1.1 | exact g1.2.1 | (rw [hr_15_1]; exact g1.2.2.1) | exact g1.2.2.2 | (rw [hr_15_0, hr_15_1]; exact v1.1) | (rw [hr_15_0, v1.2]; omega) | omega), (by first | omega | rfl | assumption | (rw [hr_15_1]; exact g1.1) | (rw [hr_15_1]; exact g1.2.1) | exact g1.1 | exact g1.2.1 | (rw [hr_15_1]; exact g1.2.2.1) | exact g1.2.2.2 | (rw [hr_15_0, hr_15_1]; exact v1.1) | (rw [hr_15_0, v1.2]; omega)), (by first | omega | rfl | assumption | (rw [hr_15_1]; exact g1.1) | (rw [hr_15_1]; exact g1.2.1) | exact g1.1 | exact g1.2.1 | (rw [hr_15_1]; exact g1.2.2.1) | exact g1.2.2.2 | (rw [hr_15_0, hr_15_1]; exact v1.1) | (rw [hr_15_0, v1.2]; omega)), (by first | omega | rfl | assumption | (rw [hr_15_1]; exact g1.1) | (rw [hr_15_1]; exact g1.2.1) | exact g1.1 | exact g1.2.1 | (rw [hr_15_1]; exact g1.2.2.1) | exact g1.2.2.2 | (rw [hr_15_0, hr_15_1]; exact v1.1) | (rw [hr_15_0, v1.2]; omega)), (by first | assumption | (rw [hr_15_1]; exact g1.1) | (rw [hr_15_1]; exact g1.2.1) | exact g1.1 | exact g1.2.1 | (rw [hr_15_1]; exact g1.2.2.1) | exact g1.2.2.2 | (rw [hr_15_0, hr_15_1]; exact v1.1) | (rw [hr_15_0, v1.2]; omega) | omega), (by first | omega | rfl | assumption | (rw [hr_15_1]; exact g1.1) | (rw [hr_15_1]; exact g1.2.1) | exact g1.1 | exact g1.2.1 | (rw [hr_15_1]; exact g1.2.2.1) | exact g1.2.2.2 | (rw [hr_15_0, hr_15_1]; exact v1.1) | (rw [hr_15_0, v1.2]; omega)), (by first | omega | rfl | assumption | (rw [hr_15_1]; exact g1.1) | (rw [hr_15_1]; exact g1.2.1) | exact g1.1 | exact g1.2.1 | (rw [hr_15_1]; exact g1.2.2.1) | exact g1.2.2.2 | (rw [hr_15_0, hr_15_1]; exact v1.1) | (rw [hr_15_0, v1.2]; omega)), (by first | omega | rfl | assumption | (rw [hr_15_1]; exact g1.1) | (rw [hr_15_1]; exact g1.2.1) | exact g1.1 | exact g1.2.1 | (rw [hr_15_1]; exact g1.2.2.1) | exact g1.2.2.2 | (rw [hr_15_0, hr_15_1]; exact v1.1) | (rw [hr_15_0, v1.2]; omega)), (by first | omega | rfl | assumption | (rw [hr_15_1]; exact g1.1) | (rw [hr_15_1]; exact g1.2.1) | exact g1.1 | exact g1.2.1 | (rw [hr_15_1]; exact g1.2.2.1) | exact g1.2.2.2 | (rw [hr_15_0, hr_15_1]; exact v1.1) | (rw [hr_15_0, v1.2]; omega)), (by first | omega | rfl | assumption | (rw [hr_15_1]; exact g1.1) | (rw [hr_15_1]; exact g1.2.1) | exact g1.1 | exact g1.2.1 | (rw [hr_15_1]; exact g1.2.2.1) | exact g1.2.2.2 | (rw [hr_15_0, hr_15_1]; exact v1.1) | (rw [hr_15_0, v1.2]; omega)), (by first | omega | rfl | assumption | (rw [hr_15_1]; exact g1.1) | (rw [hr_15_1]; exact g1.2.1) | exact g1.1 | exact g1.2.1 | (rw [hr_15_1]; exact g1.2.2.1) | exact g1.2.2.2 | (rw [hr_15_0, hr_15_1]; exact v1.1) | (rw [hr_15_0, v1.2]; omega)), (by first | omega | rfl | assumption | (rw [hr_15_1]; exact g1.1) | (rw [hr_15_1]; exact g1.2.1) | exact g1.1 | exact g1.2.1 | (rw [hr_15_1]; exact g1.2.2.1) | exact g1.2.2.2 | (rw [hr_15_0, hr_15_1]; exact v1.1) | (rw [hr_15_0, v1.2]; omega))⟩⟩⟩ rfl rfl hl.1 rfl (lv_room (Nat.le_of_ble_eq_true rfl)) dX13_cases_213 ⟨Nat.zero_le _, Nat.zero_le _⟩) hh_14.1 (fun q _ h => h) (fun q h => h) (fun r_17 u_16 t_16 H_16 locs_16 ht_16 hvm_16 hr_17 hb_16 hz_16 hk_16 hS_16 => ?_)
            obtain ⟨qn_16, qu_16, D_16⟩ := u_16
            rw [ht_16] at hb_16
            obtain ⟨⟨hb_161, hb_162, hb_163, hb_164, hb_165⟩, hb_166⟩ := hb_16
            have hh_16 : jSt (dC, dI) B base G0 G0 EX13_cases s.heap 0 0 [(r0, 15, 5, .int qn_16), (r0, 15, 34, .int qu_16), (r0, 15, 39, .int name2_13), (r0, 15, 11, .int py), (r0, 15, 21, .int pg), (r0, 15, 22, .ref zg), (r0, 15, 25, .ref zh), (r0, 15, 27, .ref zp), (r0, 15, 23, .ref zv), (r0, 15, 0, .ref zs), (r0, 15, 1, .ref zn), (r0, 15, 2, .ref za), (r0, 15, 3, .ref zb), (r0, 15, 4, .ref zc), (r0, 15, 14, .ref zy)] [(zs, 150, 120000, ca 1, D_16.s), (zn, 151, 120000, ca 1, D_16.n), (za, 152, 120000, ca 1, D_16.a), (zb, 153, 120000, ca 1, D_16.b), (zc, 154, 120000, ca 1, D_16.c), (zy, 165, 16, ca 1, D_16.y), (zy, 165, 16, ca 1, D_14.y), (zg, 161, 46, ca 1, fg), (zh, 159, 46, ca 1, fh), (zp, 162, 368, ca 1, fp), (zv, 158, 46, ca 1, fv), (zy, 165, 16, ca 1, C.y)] [] H_16 locs_16 := ((hh_14.call hb_161 hb_162 hb_163 hb_164 hS_16 rfl (L1 := [(r0, 15, 39, .int name2_13), (r0, 15, 11, .int py), (r0, 15, 21, .int pg), (r0, 15, 22, .ref zg), (r0, 15, 25, .ref zh), (r0, 15, 27, .ref zp), (r0, 15, 23, .ref zv), (r0, 15, 0, .ref zs), (r0, 15, 1, .ref zn), (r0, 15, 2, .ref za), (r0, 15, 3, .ref zb), (r0, 15, 4, .ref zc), (r0, 15, 14, .ref zy)]) [1, 3, 4, 5, 6, 7, 8, 9, 10, 11, 12, 13, 14] rfl rfl (M1 := [(zy, 165, 16, ca 1, D_14.y), (zg, 161, 46, ca 1, fg), (zh, 159, 46, ca 1, fh), (zp, 162, 368, ca 1, fp), (zv, 158, 46, ca 1, fv), (zy, 165, 16, ca 1, C.y)]) [5, 6, 7, 8, 9, 10] rfl rfl (I1 := []) [] rfl rfl).more hb_165).moreM hb_166
            clear hh_14 ht_16 hvm_16 hz_16 hk_16 hS_16 hb_161 hb_162 hb_163 hb_164 hb_165
            clear hb_166
            try simp only at hr_17
            obtain ⟨hr_17_0, hr_17_1, hr_17_2, hr_17_3, hr_17_4, hr_17_5⟩ := hr_17
            refine lv_istore (lv' := [(4, .int r_17), (3, .int z_2), (2, .int z_1), (0, .ref r0), (1, .int a1)]) hx hb dX13_cases_216 hl (by decide) rfl (fun ls hl => ?_)
            refine lv_aload_n hx hb dX13_cases_218 rfl (lv_at hl 3 rfl) ?_
            refine j7_read hx hb hown hK (C := RX13) (T := TX13) (N := 50) rfl hly_15_34 hlk_221 (hh_16.at 1 rfl) dX13_cases_219 ?_
            refine lv_if_le (tgt := 226) hx hb dX13_cases_222 (by decide) (fun c_18 => ?_) (fun c_18 => ?_)
            · skip
              have c_18' : qu_16.toInt ≤ 0 := jb_le (rfl) ((by decide)) c_18
              refine lv_aload_n hx hb dX13_cases_226 rfl (lv_at hl 3 rfl) ?_
              refine lv_iconst (v := 0) hx hb dX13_cases_227 (by decide) ?_
              refine lv_iload_n hx hb dX13_cases_228 rfl (lv_at hl 4 rfl) ?_
              refine va_callv (A0 := jA base) (H0 := s.heap) (va_runV (As := [.int 0, .int a1]) (rest := []) ⟨hx, hb, hml, hown, hts⟩ (uX13_dropHyp l dC dI ca base B hB hAp hB15 hB159 hB162 hB163 G0 H_16 r0 0 a1 zh zp fh fp) (cwV 2 hts (jgV (jWr_68 _ (List.mem_of_getElem? (i := 19) rfl)) (jWr_68 _ (List.mem_of_getElem? (i := 20) rfl)) (jWr_68 _ (List.mem_of_getElem? (i := 21) rfl)) (jWr_12 _ (List.mem_of_getElem? (i := 12) rfl)) (jWr_68 _ (List.mem_of_getElem? (i := 22) rfl))) rfl rfl rfl (by decide +kernel) ⟨by rw [← hR]; exact Nat.le_of_ble_eq_true rfl, by rw [← hR]; exact Nat.le_of_ble_eq_true rfl⟩) ⟨fun a U g mk q => by obtain ⟨q0, q1, q2, qK, q10, q11, q12, q13, q14, q15⟩ := q; exact ⟨q0, q1, q2, jG.calling g mk a qK, q10, q11, q12, q13, q14, q15⟩, hh_16.recv (C := RX13) (T := TX13) (N := 50) hB15 rfl (by decide) hg_r0 hK, fun U hU hW => ⟨rfl, hU, hh_16.2.1, hG.step hW hU hh_16.1, hg_r0, hg_zh, hg_zp, (hh_16.2.2.1.sub (L1 := [(r0, 15, 25, .ref zh), (r0, 15, 27, .ref zp)]) [6, 7] rfl), (hh_16.2.2.2.2.2.2.2.1.sub (L1 := [(zh, 159, 46, ca 1, fh), (zp, 162, 368, ca 1, fp)]) [8, 9] rfl), ⟨(by first | omega | rfl | assumption | (rw [hk0]; omega)), (by first | omega | rfl | assumption | (rw [hk0]; omega)), (by first | omega | rfl | assumption | (rw [hk0]; omega)), (by first | omega | rfl | assumption | (rw [hk0]; omega)), (by first | omega | rfl | assumption | (rw [hk0]; omega))⟩⟩⟩ rfl rfl hl.1 rfl (lv_room (Nat.le_of_ble_eq_true rfl)) dX13_cases_229 ⟨Nat.zero_le _, Nat.zero_le _⟩) hh_16.1 (fun q _ h => h) (fun q h => h) (fun u_19 t_19 H_19 locs_19 ht_19 hvm_19 hr_20 hb_19 hz_19 hk_19 hS_19 => ?_)
              obtain ⟨gh_19, gp_19⟩ := u_19
              rw [ht_19] at hb_19
              obtain ⟨⟨hb_191, hb_192, hb_193, hb_194, hb_195⟩, hb_196⟩ := hb_19
              have hh_19 : jSt (dC, dI) B base G0 G0 EX13_cases s.heap 0 0 [(r0, 15, 5, .int qn_16), (r0, 15, 34, .int qu_16), (r0, 15, 39, .int name2_13), (r0, 15, 11, .int py), (r0, 15, 21, .int pg), (r0, 15, 22, .ref zg), (r0, 15, 25, .ref zh), (r0, 15, 27, .ref zp), (r0, 15, 23, .ref zv), (r0, 15, 0, .ref zs), (r0, 15, 1, .ref zn), (r0, 15, 2, .ref za), (r0, 15, 3, .ref zb), (r0, 15, 4, .ref zc), (r0, 15, 14, .ref zy)] [(zh, 159, 46, ca 1, gh_19), (zp, 162, 368, ca 1, gp_19), (zs, 150, 120000, ca 1, D_16.s), (zn, 151, 120000, ca 1, D_16.n), (za, 152, 120000, ca 1, D_16.a), (zb, 153, 120000, ca 1, D_16.b), (zc, 154, 120000, ca 1, D_16.c), (zy, 165, 16, ca 1, D_16.y), (zy, 165, 16, ca 1, D_14.y), (zg, 161, 46, ca 1, fg), (zv, 158, 46, ca 1, fv), (zy, 165, 16, ca 1, C.y)] [] H_19 locs_19 := ((hh_16.call hb_191 hb_192 hb_193 hb_194 hS_19 rfl (L1 := [(r0, 15, 5, .int qn_16), (r0, 15, 34, .int qu_16), (r0, 15, 39, .int name2_13), (r0, 15, 11, .int py), (r0, 15, 21, .int pg), (r0, 15, 22, .ref zg), (r0, 15, 25, .ref zh), (r0, 15, 27, .ref zp), (r0, 15, 23, .ref zv), (r0, 15, 0, .ref zs), (r0, 15, 1, .ref zn), (r0, 15, 2, .ref za), (r0, 15, 3, .ref zb), (r0, 15, 4, .ref zc), (r0, 15, 14, .ref zy)]) [0, 1, 2, 3, 4, 5, 6, 7, 8, 9, 10, 11, 12, 13, 14] rfl rfl (M1 := [(zs, 150, 120000, ca 1, D_16.s), (zn, 151, 120000, ca 1, D_16.n), (za, 152, 120000, ca 1, D_16.a), (zb, 153, 120000, ca 1, D_16.b), (zc, 154, 120000, ca 1, D_16.c), (zy, 165, 16, ca 1, D_16.y), (zy, 165, 16, ca 1, D_14.y), (zg, 161, 46, ca 1, fg), (zv, 158, 46, ca 1, fv), (zy, 165, 16, ca 1, C.y)]) [0, 1, 2, 3, 4, 5, 6, 7, 10, 11] rfl rfl (I1 := []) [] rfl rfl).more hb_195).moreM hb_196
              clear hh_16 ht_19 hvm_19 hz_19 hk_19 hS_19 hb_191 hb_192 hb_193 hb_194 hb_195
              clear hb_196
              try simp only at hr_20
              rw [hk0] at hr_20
              have d0 := hr_20.1.1
              refine lv_aload_n hx hb dX13_cases_232 rfl (lv_at hl 3 rfl) ?_
              refine lv_iconst (v := 0) hx hb dX13_cases_233 (by decide) ?_
              refine lv_aload_n hx hb dX13_cases_234 rfl (lv_at hl 3 rfl) ?_
              obtain ⟨v_21, hv_21, hh_22⟩ := hh_19.pin (C := RX13) (T := TX13) (N := 50) hB15 rfl (by decide) hg_r0 (i := 40) (by decide) rfl
              clear hh_19
              obtain ⟨name3_23, rfl, hloname3_23, hhiname3_23⟩ := hv_21
              refine j7_read hx hb hown hK (C := RX13) (T := TX13) (N := 50) rfl hly_15_40 hlk_306 (hh_22.at 0 rfl) dX13_cases_235 ?_
              refine lv_iload hx hb dX13_cases_238 (lv_at hl 0 rfl) ?_
              refine va_callv (A0 := jA base) (H0 := s.heap) (va_runV (As := [.int 0, .int name3_23, .int r_17]) (rest := []) ⟨hx, hb, hml, hown, hts⟩ (uX13_addHyp l dC dI ca base B hB hAp hB15 hB159 hB162 hB163 G0 H_19 r0 0 name3_23 r_17 zh zp gh_19 gp_19) (cwV 3 hts (jgV (jWr_66 _ (List.mem_of_getElem? (i := 19) rfl)) (jWr_66 _ (List.mem_of_getElem? (i := 20) rfl)) (jWr_66 _ (List.mem_of_getElem? (i := 21) rfl)) (jWr_12 _ (List.mem_of_getElem? (i := 12) rfl)) (jWr_66 _ (List.mem_of_getElem? (i := 22) rfl))) rfl rfl rfl (by decide +kernel) ⟨by rw [← hR]; exact Nat.le_of_ble_eq_true rfl, by rw [← hR]; exact Nat.le_of_ble_eq_true rfl⟩) ⟨fun a U g mk q => by obtain ⟨q0, q1, q2, qK, q10, q11, q12, q13, q14, q15⟩ := q; exact ⟨q0, q1, q2, jG.calling g mk a qK, q10, q11, q12, q13, q14, q15⟩, hh_22.recv (C := RX13) (T := TX13) (N := 50) hB15 rfl (by decide) hg_r0 hK, fun U hU hW => ⟨rfl, hU, hh_22.2.1, hG.step hW hU hh_22.1, hg_r0, hg_zh, hg_zp, (hh_22.2.2.1.sub (L1 := [(r0, 15, 25, .ref zh), (r0, 15, 27, .ref zp)]) [7, 8] rfl), (hh_22.2.2.2.2.2.2.2.1.sub (L1 := [(zh, 159, 46, ca 1, gh_19), (zp, 162, 368, ca 1, gp_19)]) [0, 1] rfl), ⟨(by first | omega | rfl | assumption | (rw [hk0]; omega) | (have hb5 := (hr_17_5 (by omega)).1.nd; have hb6 := hb5.1; have hb7 := hb5.2.1; omega)), (by first | omega | rfl | assumption | (rw [hk0]; omega) | (have hb5 := (hr_17_5 (by omega)).1.nd; have hb6 := hb5.1; have hb7 := hb5.2.1; omega)), (by first | omega | rfl | assumption | (rw [hk0]; omega) | (have hb5 := (hr_17_5 (by omega)).1.nd; have hb6 := hb5.1; have hb7 := hb5.2.1; omega)), (by first | omega | rfl | assumption | (rw [hk0]; omega) | (have hb5 := (hr_17_5 (by omega)).1.nd; have hb6 := hb5.1; have hb7 := hb5.2.1; omega)), (by first | omega | rfl | assumption | (rw [hk0]; omega) | (have hb5 := (hr_17_5 (by omega)).1.nd; have hb6 := hb5.1; have hb7 := hb5.2.1; omega)), (by first | omega | rfl | assumption | (rw [hk0]; omega) | (have hb5 := (hr_17_5 (by omega)).1.nd; have hb6 := hb5.1; have hb7 := hb5.2.1; omega)), (by first | omega | rfl | assumption | (rw [hk0]; omega) | (have hb5 := (hr_17_5 (by omega)).1.nd; have hb6 := hb5.1; have hb7 := hb5.2.1; omega)), (by first | omega | rfl | assumption | (rw [hk0]; omega) | (have hb5 := (hr_17_5 (by omega)).1.nd; have hb6 := hb5.1; have hb7 := hb5.2.1; omega))⟩⟩⟩ rfl rfl hl.1 rfl (lv_room (Nat.le_of_ble_eq_true rfl)) dX13_cases_240 ⟨Nat.zero_le _, Nat.zero_le _⟩) hh_22.1 (fun q _ h => h) (fun q h => h) (fun u_24 t_24 H_24 locs_24 ht_24 hvm_24 hr_25 hb_24 hz_24 hk_24 hS_24 => ?_)
              obtain ⟨gh_24, gp_24⟩ := u_24
              rw [ht_24] at hb_24
              obtain ⟨⟨hb_241, hb_242, hb_243, hb_244, hb_245⟩, hb_246⟩ := hb_24
              have hh_24 : jSt (dC, dI) B base G0 G0 EX13_cases s.heap 0 0 [(r0, 15, 40, .int name3_23), (r0, 15, 5, .int qn_16), (r0, 15, 34, .int qu_16), (r0, 15, 39, .int name2_13), (r0, 15, 11, .int py), (r0, 15, 21, .int pg), (r0, 15, 22, .ref zg), (r0, 15, 25, .ref zh), (r0, 15, 27, .ref zp), (r0, 15, 23, .ref zv), (r0, 15, 0, .ref zs), (r0, 15, 1, .ref zn), (r0, 15, 2, .ref za), (r0, 15, 3, .ref zb), (r0, 15, 4, .ref zc), (r0, 15, 14, .ref zy)] [(zh, 159, 46, ca 1, gh_24), (zp, 162, 368, ca 1, gp_24), (zs, 150, 120000, ca 1, D_16.s), (zn, 151, 120000, ca 1, D_16.n), (za, 152, 120000, ca 1, D_16.a), (zb, 153, 120000, ca 1, D_16.b), (zc, 154, 120000, ca 1, D_16.c), (zy, 165, 16, ca 1, D_16.y), (zy, 165, 16, ca 1, D_14.y), (zg, 161, 46, ca 1, fg), (zv, 158, 46, ca 1, fv), (zy, 165, 16, ca 1, C.y)] [] H_24 locs_24 := ((hh_22.call hb_241 hb_242 hb_243 hb_244 hS_24 rfl (L1 := [(r0, 15, 40, .int name3_23), (r0, 15, 5, .int qn_16), (r0, 15, 34, .int qu_16), (r0, 15, 39, .int name2_13), (r0, 15, 11, .int py), (r0, 15, 21, .int pg), (r0, 15, 22, .ref zg), (r0, 15, 25, .ref zh), (r0, 15, 27, .ref zp), (r0, 15, 23, .ref zv), (r0, 15, 0, .ref zs), (r0, 15, 1, .ref zn), (r0, 15, 2, .ref za), (r0, 15, 3, .ref zb), (r0, 15, 4, .ref zc), (r0, 15, 14, .ref zy)]) [0, 1, 2, 3, 4, 5, 6, 7, 8, 9, 10, 11, 12, 13, 14, 15] rfl rfl (M1 := [(zs, 150, 120000, ca 1, D_16.s), (zn, 151, 120000, ca 1, D_16.n), (za, 152, 120000, ca 1, D_16.a), (zb, 153, 120000, ca 1, D_16.b), (zc, 154, 120000, ca 1, D_16.c), (zy, 165, 16, ca 1, D_16.y), (zy, 165, 16, ca 1, D_14.y), (zg, 161, 46, ca 1, fg), (zv, 158, 46, ca 1, fv), (zy, 165, 16, ca 1, C.y)]) [2, 3, 4, 5, 6, 7, 8, 9, 10, 11] rfl rfl (I1 := []) [] rfl rfl).more hb_245).moreM hb_246
              clear hh_22 ht_24 hvm_24 hz_24 hk_24 hS_24 hb_241 hb_242 hb_243 hb_244 hb_245
              clear hb_246
              try simp only at hr_25
              rw [hk0] at hr_25
              refine lv_aload_n hx hb dX13_cases_243 rfl (lv_at hl 3 rfl) ?_
              obtain ⟨v_26, hv_26, hh_27⟩ := hh_24.pin (C := RX13) (T := TX13) (N := 50) hB15 rfl (by decide) hg_r0 (i := 24) (by decide) rfl
              clear hh_24
              obtain ⟨varName_28, rfl, hg_varName_28⟩ := hv_26
              refine j7_read hx hb hown hK (C := RX13) (T := TX13) (N := 50) rfl hly_15_24 hlk_59 (hh_27.at 0 rfl) dX13_cases_244 ?_
              refine lv_aload_n hx hb dX13_cases_247 rfl (lv_at hl 3 rfl) ?_
              refine j7_read hx hb hown hK (C := RX13) (T := TX13) (N := 50) rfl hly_15_23 hlk_56 (hh_27.at 10 rfl) dX13_cases_248 ?_
              refine lv_iconst (v := 0) hx hb dX13_cases_251 (by decide) ?_
              refine j7_ialdM hx hb hK hh_27 hB158 1 rfl (by decide) hg_zv (x := 0) ((by decide)) (by omega) (j := 10) rfl dX13_cases_252 (fun z_29 ez_29 (hz_29 : 0 ≤ z_29.toInt ∧ z_29.toInt ≤ 6) => ?_)
              have hqz_29 : z_29.toInt = jSo fv (0) := by unfold jSo; rw [ez_29]
              refine lv_aload_n hx hb dX13_cases_253 rfl (lv_at hl 3 rfl) ?_
              refine j7_read hx hb hown hK (C := RX13) (T := TX13) (N := 50) rfl hly_15_39 hlk_303 (hh_27.at 4 rfl) dX13_cases_254 ?_
              refine j7_iast hx hb hK hh_27 hB hB163 1 rfl (by decide) (by decide) rfl rfl rfl hg_varName_28 (x := z_29.toInt) (rfl) (by omega) (by first | omega | (refine ⟨?_, ?_⟩ <;> (first | omega | rfl | assumption | decide | exact Or.inl rfl | exact Or.inr rfl | (simp only; omega)))) dX13_cases_257 (fun H_30 locs_30 hh_30 => ?_)
              clear hh_27
              refine lv_aload_n hx hb dX13_cases_258 rfl (lv_at hl 3 rfl) ?_
              refine j7_read hx hb hown hK (C := RX13) (T := TX13) (N := 50) rfl hly_15_23 hlk_56 (hh_30.at 10 rfl) dX13_cases_259 ?_
              refine lv_iconst (v := 0) hx hb dX13_cases_262 (by decide) ?_
              refine lv_dup2_11 hx hb dX13_cases_263 rfl rfl ?_
              refine j7_ialdM hx hb hK hh_30 hB158 1 rfl (by decide) hg_zv (x := 0) ((by decide)) (by omega) (j := 10) rfl dX13_cases_264 (fun z_31 ez_31 (hz_31 : 0 ≤ z_31.toInt ∧ z_31.toInt ≤ 6) => ?_)
              have hqz_31 : z_31.toInt = jSo fv (0) := by unfold jSo; rw [ez_31]
              refine lv_iconst (v := 1) hx hb dX13_cases_265 (by decide) ?_
              refine lv_iadd hx hb dX13_cases_266 ?_
              refine lv_topi (fun z_32 ez_32 => ?_)
              have hz_32 : z_32.toInt = z_31.toInt + 1 := by rw [ez_32]; exact jb_iadd2 (rfl) ((by decide)) (by omega)
              refine j7_iastU hx hb hK hh_30 hB hB158 1 rfl (by decide) (by decide) rfl 10 rfl (M1 := [(zh, 159, 46, ca 1, gh_24), (zp, 162, 368, ca 1, gp_24), (zs, 150, 120000, ca 1, D_16.s), (zn, 151, 120000, ca 1, D_16.n), (za, 152, 120000, ca 1, D_16.a), (zb, 153, 120000, ca 1, D_16.b), (zc, 154, 120000, ca 1, D_16.c), (zy, 165, 16, ca 1, D_16.y), (zy, 165, 16, ca 1, D_14.y), (zg, 161, 46, ca 1, fg), (zy, 165, 16, ca 1, C.y)]) [0, 1, 2, 3, 4, 5, 6, 7, 8, 9, 11] rfl rfl rfl hg_zv (x := 0) ((by decide)) (by omega) (by first | omega | (refine ⟨?_, ?_⟩ <;> (first | omega | rfl | assumption | decide | exact Or.inl rfl | exact Or.inr rfl | (simp only; omega)))) dX13_cases_267 (fun H_33 locs_33 fs_34 hv_33 ho_33 hh_33 => ?_)
              have hv_33 : jSo fs_34 (0) = z_32.toInt := by unfold jSo; rw [hv_33]; try exact rfl
              clear hh_30
              refine lv_goto (tgt := 277) hx hb dX13_cases_268 (by decide) ?_
              rw [hQ]
              exact W.vret hx hb hr (fun t ht hW => ⟨⟨(qn_16, qu_16, pg, fg, gh_24, gp_24, D_16), rfl, by
    try dsimp only
    have hA := hr_15_2.1.tr hr_17_2 (by omega)
    exact ⟨by omega, by omega, by omega, by omega, by omega, by omega, hA, ((hp0.mono (fun x q => q.ag hA (by omega))).drop hr_20 (by omega) (by omega) (by omega)).add hr_25 (hr_17_5 (by omega)) (by omega) (by omega) (by omega) (by omega) (by omega)⟩, ⟨hh_33.rt (M1 := [(r0, 15, 5, .int qn_16), (r0, 15, 34, .int qu_16), (r0, 15, 21, .int pg)]) [2, 3, 6] rfl ht, by rw [ht]; exact hh_33.2.2.2.2.2.2.2.1.sub [10, 1, 2, 3, 4, 5, 6, 7, 8] rfl⟩⟩, by rw [ht]; try exact hh_33.1.1, fun q h9 hq => by rw [ht]; try exact hh_33.1.2.1 q h9 hq⟩) hh_33.1.2.2 dX13_cases_277
            · skip
              have c_18' : qu_16.toInt > 0 := jb_le_n (rfl) ((by decide)) c_18
              rw [hQ]
              exact W.vret hx hb hr (fun t ht hW => ⟨⟨(qn_16, qu_16, pg, fg, fh, fp, D_16), rfl, by
    try dsimp only
    have hA := hr_15_2.1.tr hr_17_2 (by omega)
    exact ⟨by omega, by omega, by omega, by omega, by omega, by omega, hA, hp0.mono (fun x q => q.ag hA (by omega))⟩, ⟨hh_16.rt (M1 := [(r0, 15, 5, .int qn_16), (r0, 15, 34, .int qu_16), (r0, 15, 21, .int pg)]) [0, 1, 4] rfl ht, by rw [ht]; exact hh_16.2.2.2.2.2.2.2.1.sub [7, 8, 9, 0, 1, 2, 3, 4, 5] rfl⟩⟩, by rw [ht]; try exact hh_16.1.1, fun q h9 hq => by rw [ht]; try exact hh_16.1.2.1 q h9 hq⟩) hh_16.1.2.2 dX13_cases_225
          · skip
            have c_10' : pu.toInt > 0 := jb_le_n (rfl) ((by decide)) c_10
            rw [hQ]
            exact W.vret hx hb hr (fun t ht hW => ⟨⟨(pn, pu, pg, fg, fh, fp, C), rfl, by (try dsimp only); exact ⟨by omega, by omega, by omega, by omega, by omega, by omega, jAgK.rf _ _, hp0⟩, ⟨hh.rt (M1 := [(r0, 15, 5, .int pn), (r0, 15, 34, .int pu), (r0, 15, 21, .int pg)]) [0, 1, 3] rfl ht, by rw [ht]; exact hh.2.2.2.2.2.2.2.1.sub [0, 1, 2, 4, 5, 6, 7, 8, 9] rfl⟩⟩, by rw [ht]; try exact hh.1.1, fun q h9 hq => by rw [ht]; try exact hh.1.2.1 q h9 hq⟩) hh.1.2.2 dX13_cases_197
        · skip
          have c_9' : z_8.toInt = 6 := jb_ne_n (rfl) ((by decide)) c_9
          refine lv_aload_n hx hb dX13_cases_184 rfl (lv_at hl 2 rfl) ?_
          refine lv_bipush (v := 9) hx hb dX13_cases_185 (by decide) ?_
          refine va_callv (A0 := jA base) (H0 := s.heap) (va_runV (As := [.int 9]) (rest := []) ⟨hx, hb, hml, hown, hts⟩ (uX13_failsK l dC dI ca base B hB hAp hB15 G0 s.heap r0 9 pu) (cwV 1 hts (jgV (jWr_64 _ (List.mem_of_getElem? (i := 19) rfl)) (jWr_64 _ (List.mem_of_getElem? (i := 20) rfl)) (jWr_64 _ (List.mem_of_getElem? (i := 21) rfl)) (jWr_12 _ (List.mem_of_getElem? (i := 12) rfl)) (jWr_64 _ (List.mem_of_getElem? (i := 22) rfl))) rfl rfl rfl (by decide +kernel) ⟨by rw [← hR]; exact Nat.le_of_ble_eq_true rfl, by rw [← hR]; exact Nat.le_of_ble_eq_true rfl⟩) ⟨fun a U g mk q => by obtain ⟨q0, q1, q2, qK, q10, q11, q12⟩ := q; exact ⟨q0, q1, q2, jG.calling g mk a qK, q10, q11, q12⟩, hh.recv (C := RX13) (T := TX13) (N := 50) hB15 rfl (by decide) hg_r0 hK, fun U hU hW => ⟨rfl, hU, hh.2.1, hG.step hW hU hh.1, hg_r0, (hh.2.2.1.sub (L1 := [(r0, 15, 34, .int pu)]) [1] rfl), by first | omega | (refine ⟨?_, ?_, ?_, ?_⟩ <;> (first | omega | rfl | assumption | decide | exact Or.inl rfl | exact Or.inr rfl | (simp only; omega)))⟩⟩ rfl rfl hl.1 rfl (lv_room (Nat.le_of_ble_eq_true rfl)) dX13_cases_187 ⟨Nat.zero_le _, Nat.zero_le _⟩) hh.1 (fun q _ h => h) (fun q h => h) (fun u_35 t_35 H_35 locs_35 ht_35 hvm_35 hr_36 hb_35 hz_35 hk_35 hS_35 => ?_)
          obtain ⟨qu_35, rfl⟩ : ∃ z, z = u_35 := ⟨_, rfl⟩
          rw [ht_35] at hb_35
          obtain ⟨hb_351, hb_352, hb_353, hb_354, hb_355⟩ := hb_35
          have hh_35 : jSt (dC, dI) B base G0 G0 EX13_cases s.heap 0 0 [(r0, 15, 34, .int qu_35), (r0, 15, 5, .int pn), (r0, 15, 11, .int py), (r0, 15, 21, .int pg), (r0, 15, 22, .ref zg), (r0, 15, 25, .ref zh), (r0, 15, 27, .ref zp), (r0, 15, 23, .ref zv), (r0, 15, 0, .ref zs), (r0, 15, 1, .ref zn), (r0, 15, 2, .ref za), (r0, 15, 3, .ref zb), (r0, 15, 4, .ref zc), (r0, 15, 14, .ref zy)] [(zg, 161, 46, ca 1, fg), (zh, 159, 46, ca 1, fh), (zp, 162, 368, ca 1, fp), (zv, 158, 46, ca 1, fv), (zs, 150, 120000, ca 1, C.s), (zn, 151, 120000, ca 1, C.n), (za, 152, 120000, ca 1, C.a), (zb, 153, 120000, ca 1, C.b), (zc, 154, 120000, ca 1, C.c), (zy, 165, 16, ca 1, C.y)] [] H_35 locs_35 := ((hh.call hb_351 hb_352 hb_353 hb_354 hS_35 rfl (L1 := [(r0, 15, 5, .int pn), (r0, 15, 11, .int py), (r0, 15, 21, .int pg), (r0, 15, 22, .ref zg), (r0, 15, 25, .ref zh), (r0, 15, 27, .ref zp), (r0, 15, 23, .ref zv), (r0, 15, 0, .ref zs), (r0, 15, 1, .ref zn), (r0, 15, 2, .ref za), (r0, 15, 3, .ref zb), (r0, 15, 4, .ref zc), (r0, 15, 14, .ref zy)]) [0, 2, 3, 4, 5, 6, 7, 8, 9, 10, 11, 12, 13] rfl rfl (M1 := [(zg, 161, 46, ca 1, fg), (zh, 159, 46, ca 1, fh), (zp, 162, 368, ca 1, fp), (zv, 158, 46, ca 1, fv), (zs, 150, 120000, ca 1, C.s), (zn, 151, 120000, ca 1, C.n), (za, 152, 120000, ca 1, C.a), (zb, 153, 120000, ca 1, C.b), (zc, 154, 120000, ca 1, C.c), (zy, 165, 16, ca 1, C.y)]) [0, 1, 2, 3, 4, 5, 6, 7, 8, 9] rfl rfl (I1 := []) [] rfl rfl).more hb_355)
          clear hh ht_35 hvm_35 hz_35 hk_35 hS_35 hb_351 hb_352 hb_353 hb_354 hb_355
          obtain ⟨hr_36_0, hr_36_1, hr_36_2, hr_36_3⟩ := hr_36
          refine lv_aload_n hx hb dX13_cases_190 rfl (lv_at hl 2 rfl) ?_
          refine j7_read hx hb hown hK (C := RX13) (T := TX13) (N := 50) rfl hly_15_34 hlk_221 (hh_35.at 0 rfl) dX13_cases_191 ?_
          refine lv_if_le (tgt := 198) hx hb dX13_cases_194 (by decide) (fun c_37 => ?_) (fun c_37 => ?_)
          · skip
            have c_37' : qu_35.toInt ≤ 0 := jb_le (rfl) ((by decide)) c_37
            exact (by omega : False).elim
          · skip
            have c_37' : qu_35.toInt > 0 := jb_le_n (rfl) ((by decide)) c_37
            rw [hQ]
            exact W.vret hx hb hr (fun t ht hW => ⟨⟨(pn, qu_35, pg, fg, fh, fp, C), rfl, by (try dsimp only); exact ⟨by omega, by omega, by omega, by omega, by omega, by omega, jAgK.rf _ _, hp0⟩, ⟨hh_35.rt (M1 := [(r0, 15, 5, .int pn), (r0, 15, 34, .int qu_35), (r0, 15, 21, .int pg)]) [1, 0, 3] rfl ht, by rw [ht]; exact hh_35.2.2.2.2.2.2.2.1.sub [0, 1, 2, 4, 5, 6, 7, 8, 9] rfl⟩⟩, by rw [ht]; try exact hh_35.1.1, fun q h9 hq => by rw [ht]; try exact hh_35.1.2.1 q h9 hq⟩) hh_35.1.2.2 dX13_cases_197
    · skip
      have c_4' : z_2.toInt = 2 := jb_ne_n (rfl) ((by decide)) c_4
      refine lv_aload_n hx hb dX13_cases_88 rfl (lv_at hl 2 rfl) ?_
      refine lv_iconst (v := 2) hx hb dX13_cases_89 (by decide) ?_
      refine va_callv (A0 := jA base) (H0 := s.heap) (va_runV (As := [.int 2]) (rest := []) ⟨hx, hb, hml, hown, hts⟩ (uX13_timesK l dC dI ca base B hB hAp hB15 hB158 hB159 hB161 hB162 hB163 G0 s.heap r0 2 pg pu zg zh zp fg fh fp) (cwV 1 hts (jgV (jWr_67 _ (List.mem_of_getElem? (i := 19) rfl)) (jWr_67 _ (List.mem_of_getElem? (i := 20) rfl)) (jWr_67 _ (List.mem_of_getElem? (i := 21) rfl)) (jWr_12 _ (List.mem_of_getElem? (i := 12) rfl)) (jWr_67 _ (List.mem_of_getElem? (i := 22) rfl))) rfl rfl rfl (by decide +kernel) ⟨by rw [← hR]; exact Nat.le_of_ble_eq_true rfl, by rw [← hR]; exact Nat.le_of_ble_eq_true rfl⟩) ⟨fun a U g mk q => by obtain ⟨q0, q1, q2, qK, q10, q11, q12, q13, q14, q15, q16⟩ := q; exact ⟨q0, q1, q2, jG.calling g mk a qK, q10, q11, q12, q13, q14, q15, q16⟩, hh.recv (C := RX13) (T := TX13) (N := 50) hB15 rfl (by decide) hg_r0 hK, fun U hU hW => ⟨rfl, hU, hh.2.1, hG.step hW hU hh.1, hg_r0, hg_zg, hg_zh, hg_zp, (hh.2.2.1.sub (L1 := [(r0, 15, 21, .int pg), (r0, 15, 34, .int pu), (r0, 15, 22, .ref zg), (r0, 15, 25, .ref zh), (r0, 15, 27, .ref zp)]) [3, 1, 4, 5, 6] rfl), (hh.2.2.2.2.2.2.2.1.sub (L1 := [(zg, 161, 46, ca 1, fg), (zh, 159, 46, ca 1, fh), (zp, 162, 368, ca 1, fp)]) [0, 1, 2] rfl), by first | omega | (refine ⟨?_, ?_, ?_, ?_, ?_⟩ <;> (first | omega | rfl | assumption | decide | exact Or.inl rfl | exact Or.inr rfl | (simp only; omega)))⟩⟩ rfl rfl hl.1 rfl (lv_room (Nat.le_of_ble_eq_true rfl)) dX13_cases_90 ⟨Nat.zero_le _, Nat.zero_le _⟩) hh.1 (fun q _ h => h) (fun q h => h) (fun u_38 t_38 H_38 locs_38 ht_38 hvm_38 hr_39 hb_38 hz_38 hk_38 hS_38 => ?_)
      obtain ⟨qg_38, qu_38, gg_38, gh_38, gp_38⟩ := u_38
      rw [ht_38] at hb_38
      obtain ⟨⟨hb_381, hb_382, hb_383, hb_384, hb_385⟩, hb_386⟩ := hb_38
      have hh_38 : jSt (dC, dI) B base G0 G0 EX13_cases s.heap 0 0 [(r0, 15, 21, .int qg_38), (r0, 15, 34, .int qu_38), (r0, 15, 5, .int pn), (r0, 15, 11, .int py), (r0, 15, 22, .ref zg), (r0, 15, 25, .ref zh), (r0, 15, 27, .ref zp), (r0, 15, 23, .ref zv), (r0, 15, 0, .ref zs), (r0, 15, 1, .ref zn), (r0, 15, 2, .ref za), (r0, 15, 3, .ref zb), (r0, 15, 4, .ref zc), (r0, 15, 14, .ref zy)] [(zg, 161, 46, ca 1, gg_38), (zh, 159, 46, ca 1, gh_38), (zp, 162, 368, ca 1, gp_38), (zs, 150, 120000, ca 1, C.s), (zn, 151, 120000, ca 1, C.n), (za, 152, 120000, ca 1, C.a), (zb, 153, 120000, ca 1, C.b), (zc, 154, 120000, ca 1, C.c), (zy, 165, 16, ca 1, C.y)] [] H_38 locs_38 := ((hh.call hb_381 hb_382 hb_383 hb_384 hS_38 rfl (L1 := [(r0, 15, 5, .int pn), (r0, 15, 11, .int py), (r0, 15, 22, .ref zg), (r0, 15, 25, .ref zh), (r0, 15, 27, .ref zp), (r0, 15, 23, .ref zv), (r0, 15, 0, .ref zs), (r0, 15, 1, .ref zn), (r0, 15, 2, .ref za), (r0, 15, 3, .ref zb), (r0, 15, 4, .ref zc), (r0, 15, 14, .ref zy)]) [0, 2, 4, 5, 6, 7, 8, 9, 10, 11, 12, 13] rfl rfl (M1 := [(zs, 150, 120000, ca 1, C.s), (zn, 151, 120000, ca 1, C.n), (za, 152, 120000, ca 1, C.a), (zb, 153, 120000, ca 1, C.b), (zc, 154, 120000, ca 1, C.c), (zy, 165, 16, ca 1, C.y)]) [4, 5, 6, 7, 8, 9] rfl rfl (I1 := []) [] rfl rfl).more hb_385).moreM hb_386
      clear hh ht_38 hvm_38 hz_38 hk_38 hS_38 hb_381 hb_382 hb_383 hb_384 hb_385
      clear hb_386
      try simp only at hr_39
      obtain ⟨hr_39_0, hr_39_1, hr_39_2, hr_39_3, hr_39_4, hr_39_5⟩ := hr_39
      refine lv_aload_n hx hb dX13_cases_93 rfl (lv_at hl 2 rfl) ?_
      refine j7_read hx hb hown hK (C := RX13) (T := TX13) (N := 50) rfl hly_15_34 hlk_221 (hh_38.at 1 rfl) dX13_cases_94 ?_
      refine lv_if_le (tgt := 101) hx hb dX13_cases_97 (by decide) (fun c_40 => ?_) (fun c_40 => ?_)
      · skip
        have c_40' : qu_38.toInt ≤ 0 := jb_le (rfl) ((by decide)) c_40
        have k2 := hf.sub2 (by omega)
        have ka := k2.1.rng
        have kb := k2.2.1.rng
        have ht := (hr_39_4 (by omega)).2
        have hqg := (hr_39_4 (by omega)).1
        have ht0 := (ht.2 0 (by omega) (by omega)).2.1
        have ht1 := (ht.2 1 (by omega) (by omega)).2.1
        have gl0 := hp0.times ht
        obtain ⟨fg1, hfg1⟩ : ∃ z, z = gg_38 := ⟨_, rfl⟩
        rw [← hfg1] at gl0
        refine lv_iconst (v := 0) hx hb dX13_cases_101 (by decide) ?_
        refine lv_istore (lv' := [(4, .int 0), (3, .int z_2), (2, .int z_1), (0, .ref r0), (1, .int a1)]) hx hb dX13_cases_102 hl (by decide) rfl (fun ls hl => ?_)
        have L104 : ∀ (N : Nat) (v4_41 : Int32) (fh_41 : Nat → Int32) (fp_41 : Nat → Int32) (H_41 : Heap) (locs_41 : List Loc), jSt (dC, dI) B base G0 G0 EX13_cases s.heap 0 0 [(r0, 15, 21, .int qg_38), (r0, 15, 34, .int qu_38), (r0, 15, 5, .int pn), (r0, 15, 11, .int py), (r0, 15, 22, .ref zg), (r0, 15, 25, .ref zh), (r0, 15, 27, .ref zp), (r0, 15, 23, .ref zv), (r0, 15, 0, .ref zs), (r0, 15, 1, .ref zn), (r0, 15, 2, .ref za), (r0, 15, 3, .ref zb), (r0, 15, 4, .ref zc), (r0, 15, 14, .ref zy)] [(zp, 162, 368, ca 1, fp_41), (zh, 159, 46, ca 1, fh_41), (zg, 161, 46, ca 1, gg_38), (zs, 150, 120000, ca 1, C.s), (zn, 151, 120000, ca 1, C.n), (za, 152, 120000, ca 1, C.a), (zb, 153, 120000, ca 1, C.b), (zc, 154, 120000, ca 1, C.c), (zy, 165, 16, ca 1, C.y)] [] H_41 locs_41 → (0 ≤ v4_41.toInt ∧ v4_41.toInt ≤ 2 ∧ jGl (jG1 C pn.toInt py.toInt) fg1 fh_41 fp_41 qg_38.toInt ∧ (v4_41.toInt ≤ 0 → jSo fh_41 0 = kk0) ∧ (v4_41.toInt ≤ 1 → jSo fh_41 1 = kk0)) → (2 - v4_41.toInt : Int) < N → ∀ ls : Array Slot, lv_has ls 5 [(0, .ref r0), (1, .int a1), (2, .int z_1), (3, .int z_2), (4, .int v4_41)] → W p l e R s m ([.ref r0, .int a1] : List Value).toArray below meth c H_41 locs_41 0 0 Q (F0 m 104 ls []) := by
          intro N
          induction N with
          | zero => intro v4_41 fh_41 fp_41 H_41 locs_41 hh_41  hi_41 hm; exact absurd hm (by omega)
          | succ N L104 =>
            intro v4_41 fh_41 fp_41 H_41 locs_41 hh_41  hi_41 hm_41 ls hl
            obtain ⟨hi_41_0, hi_41_1, hi_41_2, hi_41_3, hi_41_4⟩ := hi_41
            refine lv_iload hx hb dX13_cases_104 (lv_at hl 4 rfl) ?_
            refine lv_iconst (v := 2) hx hb dX13_cases_106 (by decide) ?_
            refine lv_icmp_ge (tgt := 165) hx hb dX13_cases_107 (by decide) (fun c_42 => ?_) (fun c_42 => ?_)
            · skip
              have c_42' : v4_41.toInt ≥ 2 := jb_ge (rfl) ((by decide)) c_42
              refine lv_goto (tgt := 277) hx hb dX13_cases_165 (by decide) ?_
              rw [hQ]
              exact W.vret hx hb hr (fun t ht hW => ⟨⟨(pn, qu_38, qg_38, gg_38, fh_41, fp_41, C), rfl, by (try dsimp only); refine ⟨by omega, by omega, by omega, by omega, by omega, by omega, jAgK.rf _ _, ?_⟩; rw [← hfg1]; exact hi_41_2, ⟨hh_41.rt (M1 := [(r0, 15, 5, .int pn), (r0, 15, 34, .int qu_38), (r0, 15, 21, .int qg_38)]) [2, 1, 0] rfl ht, by rw [ht]; exact hh_41.2.2.2.2.2.2.2.1.sub [2, 1, 0, 3, 4, 5, 6, 7, 8] rfl⟩⟩, by rw [ht]; try exact hh_41.1.1, fun q h9 hq => by rw [ht]; try exact hh_41.1.2.1 q h9 hq⟩) hh_41.1.2.2 dX13_cases_277
            · skip
              have c_42' : v4_41.toInt < 2 := jb_ge_n (rfl) ((by decide)) c_42
              have hv4 : jSo fh_41 v4_41.toInt = kk0 := by rcases (by omega : v4_41.toInt = 0 ∨ v4_41.toInt = 1) with q | q; (rw [q]; exact hi_41_3 (by omega)); (rw [q]; exact hi_41_4 (by omega))
              refine lv_aload_n hx hb dX13_cases_110 rfl (lv_at hl 0 rfl) ?_
              refine lv_iload hx hb dX13_cases_111 (lv_at hl 4 rfl) ?_
              refine lv_iload_n hx hb dX13_cases_113 rfl (lv_at hl 1 rfl) ?_
              refine va_callv (A0 := jA base) (H0 := s.heap) (va_runV (As := [.int v4_41, .int a1]) (rest := []) ⟨hx, hb, hml, hown, hts⟩ (uX13_dropHyp l dC dI ca base B hB hAp hB15 hB159 hB162 hB163 G0 H_41 r0 v4_41 a1 zh zp fh_41 fp_41) (cwV 2 hts (jgV (jWr_68 _ (List.mem_of_getElem? (i := 19) rfl)) (jWr_68 _ (List.mem_of_getElem? (i := 20) rfl)) (jWr_68 _ (List.mem_of_getElem? (i := 21) rfl)) (jWr_12 _ (List.mem_of_getElem? (i := 12) rfl)) (jWr_68 _ (List.mem_of_getElem? (i := 22) rfl))) rfl rfl rfl (by decide +kernel) ⟨by rw [← hR]; exact Nat.le_of_ble_eq_true rfl, by rw [← hR]; exact Nat.le_of_ble_eq_true rfl⟩) ⟨fun a U g mk q => by obtain ⟨q0, q1, q2, qK, q10, q11, q12, q13, q14, q15⟩ := q; exact ⟨q0, q1, q2, jG.calling g mk a qK, q10, q11, q12, q13, q14, q15⟩, hh_41.recv (C := RX13) (T := TX13) (N := 50) hB15 rfl (by decide) hg_r0 hK, fun U hU hW => ⟨rfl, hU, hh_41.2.1, hG.step hW hU hh_41.1, hg_r0, hg_zh, hg_zp, (hh_41.2.2.1.sub (L1 := [(r0, 15, 25, .ref zh), (r0, 15, 27, .ref zp)]) [5, 6] rfl), (hh_41.2.2.2.2.2.2.2.1.sub (L1 := [(zh, 159, 46, ca 1, fh_41), (zp, 162, 368, ca 1, fp_41)]) [1, 0] rfl), by first | omega | (refine ⟨?_, ?_, ?_, ?_, ?_⟩ <;> (first | omega | rfl | assumption | decide | exact Or.inl rfl | exact Or.inr rfl | (simp only; omega)))⟩⟩ rfl rfl hl.1 rfl (lv_room (Nat.le_of_ble_eq_true rfl)) dX13_cases_114 ⟨Nat.zero_le _, Nat.zero_le _⟩) hh_41.1 (fun q _ h => h) (fun q h => h) (fun u_43 t_43 H_43 locs_43 ht_43 hvm_43 hr_44 hb_43 hz_43 hk_43 hS_43 => ?_)
              obtain ⟨gh_43, gp_43⟩ := u_43
              rw [ht_43] at hb_43
              obtain ⟨⟨hb_431, hb_432, hb_433, hb_434, hb_435⟩, hb_436⟩ := hb_43
              have hh_43 : jSt (dC, dI) B base G0 G0 EX13_cases s.heap 0 0 [(r0, 15, 21, .int qg_38), (r0, 15, 34, .int qu_38), (r0, 15, 5, .int pn), (r0, 15, 11, .int py), (r0, 15, 22, .ref zg), (r0, 15, 25, .ref zh), (r0, 15, 27, .ref zp), (r0, 15, 23, .ref zv), (r0, 15, 0, .ref zs), (r0, 15, 1, .ref zn), (r0, 15, 2, .ref za), (r0, 15, 3, .ref zb), (r0, 15, 4, .ref zc), (r0, 15, 14, .ref zy)] [(zh, 159, 46, ca 1, gh_43), (zp, 162, 368, ca 1, gp_43), (zg, 161, 46, ca 1, gg_38), (zs, 150, 120000, ca 1, C.s), (zn, 151, 120000, ca 1, C.n), (za, 152, 120000, ca 1, C.a), (zb, 153, 120000, ca 1, C.b), (zc, 154, 120000, ca 1, C.c), (zy, 165, 16, ca 1, C.y)] [] H_43 locs_43 := ((hh_41.call hb_431 hb_432 hb_433 hb_434 hS_43 rfl (L1 := [(r0, 15, 21, .int qg_38), (r0, 15, 34, .int qu_38), (r0, 15, 5, .int pn), (r0, 15, 11, .int py), (r0, 15, 22, .ref zg), (r0, 15, 25, .ref zh), (r0, 15, 27, .ref zp), (r0, 15, 23, .ref zv), (r0, 15, 0, .ref zs), (r0, 15, 1, .ref zn), (r0, 15, 2, .ref za), (r0, 15, 3, .ref zb), (r0, 15, 4, .ref zc), (r0, 15, 14, .ref zy)]) [0, 1, 2, 3, 4, 5, 6, 7, 8, 9, 10, 11, 12, 13] rfl rfl (M1 := [(zg, 161, 46, ca 1, gg_38), (zs, 150, 120000, ca 1, C.s), (zn, 151, 120000, ca 1, C.n), (za, 152, 120000, ca 1, C.a), (zb, 153, 120000, ca 1, C.b), (zc, 154, 120000, ca 1, C.c), (zy, 165, 16, ca 1, C.y)]) [2, 3, 4, 5, 6, 7, 8] rfl rfl (I1 := []) [] rfl rfl).more hb_435).moreM hb_436
              clear hh_41 ht_43 hvm_43 hz_43 hk_43 hS_43 hb_431 hb_432 hb_433 hb_434 hb_435
              clear hb_436
              try simp only at hr_44
              have d0 := hr_44.1.1
              have d1 := hr_44.1.2 1 (by omega) (by omega)
              refine lv_aload_n hx hb dX13_cases_117 rfl (lv_at hl 0 rfl) ?_
              refine lv_iload hx hb dX13_cases_118 (lv_at hl 4 rfl) ?_
              refine lv_iload hx hb dX13_cases_120 (lv_at hl 4 rfl) ?_
              refine lv_if_ne (tgt := 132) hx hb dX13_cases_122 (by decide) (fun c_45 => ?_) (fun c_45 => ?_)
              · skip
                have c_45' : v4_41.toInt ≠ 0 := jb_ne (rfl) ((by decide)) c_45
                refine lv_aload_n hx hb dX13_cases_132 rfl (lv_at hl 0 rfl) ?_
                obtain ⟨v_46, hv_46, hh_47⟩ := hh_43.pin (C := RX13) (T := TX13) (N := 50) hB15 rfl (by decide) hg_r0 (i := 40) (by decide) rfl
                clear hh_43
                obtain ⟨name3_48, rfl, hloname3_48, hhiname3_48⟩ := hv_46
                refine j7_read hx hb hown hK (C := RX13) (T := TX13) (N := 50) rfl hly_15_40 hlk_306 (hh_47.at 0 rfl) dX13_cases_133 ?_
                refine lv_iload hx hb dX13_cases_136 (lv_at hl 4 rfl) ?_
                refine lv_if_ne (tgt := 150) hx hb dX13_cases_138 (by decide) (fun c_49 => ?_) (fun c_49 => ?_)
                · skip
                  have c_49' : v4_41.toInt ≠ 0 := jb_ne (rfl) ((by decide)) c_49
                  refine lv_aload_n hx hb dX13_cases_150 rfl (lv_at hl 0 rfl) ?_
                  refine j7_read hx hb hown hK (C := RX13) (T := TX13) (N := 50) rfl hly_15_3 hlk_22 (hh_47.at 12 rfl) dX13_cases_151 ?_
                  refine lv_iload_n hx hb dX13_cases_154 rfl (lv_at hl 2 rfl) ?_
                  refine j7_ialdM hx hb hK hh_47 hB153 1 rfl (by decide) hg_zb (x := z_1.toInt) (rfl) (by omega) (j := 6) rfl dX13_cases_155 (fun z_50 ez_50 (hz_50 : True) => ?_)
                  have hqz_50 : z_50.toInt = jSo C.b (z_1.toInt) := by unfold jSo; rw [ez_50]
                  refine va_callv (A0 := jA base) (H0 := s.heap) (va_runV (As := [.int v4_41, .int name3_48, .int z_50]) (rest := []) ⟨hx, hb, hml, hown, hts⟩ (uX13_addHyp l dC dI ca base B hB hAp hB15 hB159 hB162 hB163 G0 H_43 r0 v4_41 name3_48 z_50 zh zp gh_43 gp_43) (cwV 3 hts (jgV (jWr_66 _ (List.mem_of_getElem? (i := 19) rfl)) (jWr_66 _ (List.mem_of_getElem? (i := 20) rfl)) (jWr_66 _ (List.mem_of_getElem? (i := 21) rfl)) (jWr_12 _ (List.mem_of_getElem? (i := 12) rfl)) (jWr_66 _ (List.mem_of_getElem? (i := 22) rfl))) rfl rfl rfl (by decide +kernel) ⟨by rw [← hR]; exact Nat.le_of_ble_eq_true rfl, by rw [← hR]; exact Nat.le_of_ble_eq_true rfl⟩) ⟨fun a U g mk q => by obtain ⟨q0, q1, q2, qK, q10, q11, q12, q13, q14, q15⟩ := q; exact ⟨q0, q1, q2, jG.calling g mk a qK, q10, q11, q12, q13, q14, q15⟩, hh_47.recv (C := RX13) (T := TX13) (N := 50) hB15 rfl (by decide) hg_r0 hK, fun U hU hW => ⟨rfl, hU, hh_47.2.1, hG.step hW hU hh_47.1, hg_r0, hg_zh, hg_zp, (hh_47.2.2.1.sub (L1 := [(r0, 15, 25, .ref zh), (r0, 15, 27, .ref zp)]) [6, 7] rfl), (hh_47.2.2.2.2.2.2.2.1.sub (L1 := [(zh, 159, 46, ca 1, gh_43), (zp, 162, 368, ca 1, gp_43)]) [0, 1] rfl), ⟨(by first | omega | rfl | assumption | (rw [(zz_none), hqz_1]; omega) | (rw [hqz_50, hqz_1]; omega)), (by first | omega | rfl | assumption | (rw [(zz_none), hqz_1]; omega) | (rw [hqz_50, hqz_1]; omega)), (by first | omega | rfl | assumption | (rw [(zz_none), hqz_1]; omega) | (rw [hqz_50, hqz_1]; omega)), (by first | omega | rfl | assumption | (rw [(zz_none), hqz_1]; omega) | (rw [hqz_50, hqz_1]; omega)), (by first | omega | rfl | assumption | (rw [(zz_none), hqz_1]; omega) | (rw [hqz_50, hqz_1]; omega)), (by first | omega | rfl | assumption | (rw [(zz_none), hqz_1]; omega) | (rw [hqz_50, hqz_1]; omega)), (by first | omega | rfl | assumption | (rw [(zz_none), hqz_1]; omega) | (rw [hqz_50, hqz_1]; omega)), (by first | omega | rfl | assumption | (rw [(zz_none), hqz_1]; omega) | (rw [hqz_50, hqz_1]; omega))⟩⟩⟩ rfl rfl hl.1 rfl (lv_room (Nat.le_of_ble_eq_true rfl)) dX13_cases_156 ⟨Nat.zero_le _, Nat.zero_le _⟩) hh_47.1 (fun q _ h => h) (fun q h => h) (fun u_51 t_51 H_51 locs_51 ht_51 hvm_51 hr_52 hb_51 hz_51 hk_51 hS_51 => ?_)
                  obtain ⟨gh_51, gp_51⟩ := u_51
                  rw [ht_51] at hb_51
                  obtain ⟨⟨hb_511, hb_512, hb_513, hb_514, hb_515⟩, hb_516⟩ := hb_51
                  have hh_51 : jSt (dC, dI) B base G0 G0 EX13_cases s.heap 0 0 [(r0, 15, 40, .int name3_48), (r0, 15, 21, .int qg_38), (r0, 15, 34, .int qu_38), (r0, 15, 5, .int pn), (r0, 15, 11, .int py), (r0, 15, 22, .ref zg), (r0, 15, 25, .ref zh), (r0, 15, 27, .ref zp), (r0, 15, 23, .ref zv), (r0, 15, 0, .ref zs), (r0, 15, 1, .ref zn), (r0, 15, 2, .ref za), (r0, 15, 3, .ref zb), (r0, 15, 4, .ref zc), (r0, 15, 14, .ref zy)] [(zh, 159, 46, ca 1, gh_51), (zp, 162, 368, ca 1, gp_51), (zg, 161, 46, ca 1, gg_38), (zs, 150, 120000, ca 1, C.s), (zn, 151, 120000, ca 1, C.n), (za, 152, 120000, ca 1, C.a), (zb, 153, 120000, ca 1, C.b), (zc, 154, 120000, ca 1, C.c), (zy, 165, 16, ca 1, C.y)] [] H_51 locs_51 := ((hh_47.call hb_511 hb_512 hb_513 hb_514 hS_51 rfl (L1 := [(r0, 15, 40, .int name3_48), (r0, 15, 21, .int qg_38), (r0, 15, 34, .int qu_38), (r0, 15, 5, .int pn), (r0, 15, 11, .int py), (r0, 15, 22, .ref zg), (r0, 15, 25, .ref zh), (r0, 15, 27, .ref zp), (r0, 15, 23, .ref zv), (r0, 15, 0, .ref zs), (r0, 15, 1, .ref zn), (r0, 15, 2, .ref za), (r0, 15, 3, .ref zb), (r0, 15, 4, .ref zc), (r0, 15, 14, .ref zy)]) [0, 1, 2, 3, 4, 5, 6, 7, 8, 9, 10, 11, 12, 13, 14] rfl rfl (M1 := [(zg, 161, 46, ca 1, gg_38), (zs, 150, 120000, ca 1, C.s), (zn, 151, 120000, ca 1, C.n), (za, 152, 120000, ca 1, C.a), (zb, 153, 120000, ca 1, C.b), (zc, 154, 120000, ca 1, C.c), (zy, 165, 16, ca 1, C.y)]) [2, 3, 4, 5, 6, 7, 8] rfl rfl (I1 := []) [] rfl rfl).more hb_515).moreM hb_516
                  clear hh_47 ht_51 hvm_51 hz_51 hk_51 hS_51 hb_511 hb_512 hb_513 hb_514 hb_515
                  clear hb_516
                  try simp only at hr_52
                  have d2 := hr_52.1.2 1 (by omega) (by omega)
                  obtain ⟨z_53, ez_53⟩ : ∃ y : Int32, y = v4_41 + 1 := ⟨_, rfl⟩
                  refine lv_iinc (v := z_53) (lv' := [(4, .int z_53), (0, .ref r0), (1, .int a1), (2, .int z_1), (3, .int z_2)]) hx hb dX13_cases_159 hl (k := 4) rfl (by rw [ez_53]; rfl) (by decide) rfl (fun ls hl => ?_)
                  have hz_53 : z_53.toInt = v4_41.toInt + 1 := by rw [ez_53]; exact jb_iadd2 (rfl) (by decide) (by omega)
                  refine lv_goto (tgt := 104) hx hb dX13_cases_162 (by decide) ?_
                  exact L104 z_53 gh_51 gp_51 _ _ (hh_51.sub (L1 := [(r0, 15, 21, .int qg_38), (r0, 15, 34, .int qu_38), (r0, 15, 5, .int pn), (r0, 15, 11, .int py), (r0, 15, 22, .ref zg), (r0, 15, 25, .ref zh), (r0, 15, 27, .ref zp), (r0, 15, 23, .ref zv), (r0, 15, 0, .ref zs), (r0, 15, 1, .ref zn), (r0, 15, 2, .ref za), (r0, 15, 3, .ref zb), (r0, 15, 4, .ref zc), (r0, 15, 14, .ref zy)]) [1, 2, 3, 4, 5, 6, 7, 8, 9, 10, 11, 12, 13, 14] rfl (M1 := [(zp, 162, 368, ca 1, gp_51), (zh, 159, 46, ca 1, gh_51), (zg, 161, 46, ca 1, gg_38), (zs, 150, 120000, ca 1, C.s), (zn, 151, 120000, ca 1, C.n), (za, 152, 120000, ca 1, C.a), (zb, 153, 120000, ca 1, C.b), (zc, 154, 120000, ca 1, C.c), (zy, 165, 16, ca 1, C.y)]) [1, 0, 2, 3, 4, 5, 6, 7, 8] rfl (I1 := []) [] rfl) (⟨(by first | omega | rfl | assumption | exact gl0 | (intro _; omega) | exact (hi_41_2.drop hr_44 (by omega) (by omega) (by omega)).add hr_52 (by first | (rw [(zz_none), hqz_1]; exact k2.1) | (rw [hqz_50, hqz_1]; exact k2.2.1)) (by omega) (by omega) (by omega) (by omega) (by omega) | (intro h9; exact absurd h9 (by omega)) | (intro h9; rw [d2 (by omega), d1 (by omega)]; exact hi_41_4 (by omega))), (by first | omega | rfl | assumption | exact gl0 | (intro _; omega) | exact (hi_41_2.drop hr_44 (by omega) (by omega) (by omega)).add hr_52 (by first | (rw [(zz_none), hqz_1]; exact k2.1) | (rw [hqz_50, hqz_1]; exact k2.2.1)) (by omega) (by omega) (by omega) (by omega) (by omega) | (intro h9; exact absurd h9 (by omega)) | (intro h9; rw [d2 (by omega), d1 (by omega)]; exact hi_41_4 (by omega))), (by first | assumption | exact gl0 | (intro _; omega) | exact (hi_41_2.drop hr_44 (by omega) (by omega) (by omega)).add hr_52 (by first | (rw [(zz_none), hqz_1]; exact k2.1) | (rw [hqz_50, hqz_1]; exact k2.2.1)) (by omega) (by omega) (by omega) (by omega) (by omega) | (intro h9; exact absurd h9 (by omega)) | (intro h9; rw [d2 (by omega), d1 (by omega)]; exact hi_41_4 (by omega)) | omega), (by first | assumption | exact gl0 | (intro _; omega) | exact (hi_41_2.drop hr_44 (by omega) (by omega) (by omega)).add hr_52 (by first | (rw [(zz_none), hqz_1]; exact k2.1) | (rw [hqz_50, hqz_1]; exact k2.2.1)) (by omega) (by omega) (by omega) (by omega) (by omega) | (intro h9; exact absurd h9 (by omega)) | (intro h9; rw [d2 (by omega), d1 (by omega)]; exact hi_41_4 (by omega)) | omega), (by first | assumption | exact gl0 | (intro _; omega) | exact (hi_41_2.drop hr_44 (by omega) (by omega) (by omega)).add hr_52 (by first | (rw [(zz_none), hqz_1]; exact k2.1) | (rw [hqz_50, hqz_1]; exact k2.2.1)) (by omega) (by omega) (by omega) (by omega) (by omega) | (intro h9; exact absurd h9 (by omega)) | (intro h9; rw [d2 (by omega), d1 (by omega)]; exact hi_41_4 (by omega)) | omega)⟩) (by omega) _ (lv_sub hl [1, 2, 3, 4, 0] rfl)
                · skip
                  have c_49' : v4_41.toInt = 0 := jb_ne_n (rfl) ((by decide)) c_49
                  exact (by omega : False).elim
              · skip
                have c_45' : v4_41.toInt = 0 := jb_ne_n (rfl) ((by decide)) c_45
                refine lv_aload_n hx hb dX13_cases_125 rfl (lv_at hl 0 rfl) ?_
                obtain ⟨v_54, hv_54, hh_55⟩ := hh_43.pin (C := RX13) (T := TX13) (N := 50) hB15 rfl (by decide) hg_r0 (i := 39) (by decide) rfl
                clear hh_43
                obtain ⟨name2_56, rfl, hloname2_56, hhiname2_56⟩ := hv_54
                refine j7_read hx hb hown hK (C := RX13) (T := TX13) (N := 50) rfl hly_15_39 hlk_303 (hh_55.at 0 rfl) dX13_cases_126 ?_
                refine lv_goto (tgt := 136) hx hb dX13_cases_129 (by decide) ?_
                refine lv_iload hx hb dX13_cases_136 (lv_at hl 4 rfl) ?_
                refine lv_if_ne (tgt := 150) hx hb dX13_cases_138 (by decide) (fun c_57 => ?_) (fun c_57 => ?_)
                · skip
                  have c_57' : v4_41.toInt ≠ 0 := jb_ne (rfl) ((by decide)) c_57
                  exact (by omega : False).elim
                · skip
                  have c_57' : v4_41.toInt = 0 := jb_ne_n (rfl) ((by decide)) c_57
                  refine lv_aload_n hx hb dX13_cases_141 rfl (lv_at hl 0 rfl) ?_
                  refine j7_read hx hb hown hK (C := RX13) (T := TX13) (N := 50) rfl hly_15_2 hlk_19 (hh_55.at 11 rfl) dX13_cases_142 ?_
                  refine lv_iload_n hx hb dX13_cases_145 rfl (lv_at hl 2 rfl) ?_
                  refine j7_ialdM hx hb hK hh_55 hB152 1 rfl (by decide) hg_za (x := z_1.toInt) (rfl) (by omega) (j := 5) rfl dX13_cases_146 (fun z_58 ez_58 (hz_58 : True) => ?_)
                  have hqz_58 : z_58.toInt = jSo C.a (z_1.toInt) := by unfold jSo; rw [ez_58]
                  refine lv_goto (tgt := 156) hx hb dX13_cases_147 (by decide) ?_
                  refine va_callv (A0 := jA base) (H0 := s.heap) (va_runV (As := [.int v4_41, .int name2_56, .int z_58]) (rest := []) ⟨hx, hb, hml, hown, hts⟩ (uX13_addHyp l dC dI ca base B hB hAp hB15 hB159 hB162 hB163 G0 H_43 r0 v4_41 name2_56 z_58 zh zp gh_43 gp_43) (cwV 3 hts (jgV (jWr_66 _ (List.mem_of_getElem? (i := 19) rfl)) (jWr_66 _ (List.mem_of_getElem? (i := 20) rfl)) (jWr_66 _ (List.mem_of_getElem? (i := 21) rfl)) (jWr_12 _ (List.mem_of_getElem? (i := 12) rfl)) (jWr_66 _ (List.mem_of_getElem? (i := 22) rfl))) rfl rfl rfl (by decide +kernel) ⟨by rw [← hR]; exact Nat.le_of_ble_eq_true rfl, by rw [← hR]; exact Nat.le_of_ble_eq_true rfl⟩) ⟨fun a U g mk q => by obtain ⟨q0, q1, q2, qK, q10, q11, q12, q13, q14, q15⟩ := q; exact ⟨q0, q1, q2, jG.calling g mk a qK, q10, q11, q12, q13, q14, q15⟩, hh_55.recv (C := RX13) (T := TX13) (N := 50) hB15 rfl (by decide) hg_r0 hK, fun U hU hW => ⟨rfl, hU, hh_55.2.1, hG.step hW hU hh_55.1, hg_r0, hg_zh, hg_zp, (hh_55.2.2.1.sub (L1 := [(r0, 15, 25, .ref zh), (r0, 15, 27, .ref zp)]) [6, 7] rfl), (hh_55.2.2.2.2.2.2.2.1.sub (L1 := [(zh, 159, 46, ca 1, gh_43), (zp, 162, 368, ca 1, gp_43)]) [0, 1] rfl), ⟨(by first | omega | rfl | assumption | (rw [hqz_58, hqz_1]; omega) | (rw [(zz_none), hqz_1]; omega)), (by first | omega | rfl | assumption | (rw [hqz_58, hqz_1]; omega) | (rw [(zz_none), hqz_1]; omega)), (by first | omega | rfl | assumption | (rw [hqz_58, hqz_1]; omega) | (rw [(zz_none), hqz_1]; omega)), (by first | omega | rfl | assumption | (rw [hqz_58, hqz_1]; omega) | (rw [(zz_none), hqz_1]; omega)), (by first | omega | rfl | assumption | (rw [hqz_58, hqz_1]; omega) | (rw [(zz_none), hqz_1]; omega)), (by first | omega | rfl | assumption | (rw [hqz_58, hqz_1]; omega) | (rw [(zz_none), hqz_1]; omega)), (by first | omega | rfl | assumption | (rw [hqz_58, hqz_1]; omega) | (rw [(zz_none), hqz_1]; omega)), (by first | omega | rfl | assumption | (rw [hqz_58, hqz_1]; omega) | (rw [(zz_none), hqz_1]; omega))⟩⟩⟩ rfl rfl hl.1 rfl (lv_room (Nat.le_of_ble_eq_true rfl)) dX13_cases_156 ⟨Nat.zero_le _, Nat.zero_le _⟩) hh_55.1 (fun q _ h => h) (fun q h => h) (fun u_59 t_59 H_59 locs_59 ht_59 hvm_59 hr_60 hb_59 hz_59 hk_59 hS_59 => ?_)
                  obtain ⟨gh_59, gp_59⟩ := u_59
                  rw [ht_59] at hb_59
                  obtain ⟨⟨hb_591, hb_592, hb_593, hb_594, hb_595⟩, hb_596⟩ := hb_59
                  have hh_59 : jSt (dC, dI) B base G0 G0 EX13_cases s.heap 0 0 [(r0, 15, 39, .int name2_56), (r0, 15, 21, .int qg_38), (r0, 15, 34, .int qu_38), (r0, 15, 5, .int pn), (r0, 15, 11, .int py), (r0, 15, 22, .ref zg), (r0, 15, 25, .ref zh), (r0, 15, 27, .ref zp), (r0, 15, 23, .ref zv), (r0, 15, 0, .ref zs), (r0, 15, 1, .ref zn), (r0, 15, 2, .ref za), (r0, 15, 3, .ref zb), (r0, 15, 4, .ref zc), (r0, 15, 14, .ref zy)] [(zh, 159, 46, ca 1, gh_59), (zp, 162, 368, ca 1, gp_59), (zg, 161, 46, ca 1, gg_38), (zs, 150, 120000, ca 1, C.s), (zn, 151, 120000, ca 1, C.n), (za, 152, 120000, ca 1, C.a), (zb, 153, 120000, ca 1, C.b), (zc, 154, 120000, ca 1, C.c), (zy, 165, 16, ca 1, C.y)] [] H_59 locs_59 := ((hh_55.call hb_591 hb_592 hb_593 hb_594 hS_59 rfl (L1 := [(r0, 15, 39, .int name2_56), (r0, 15, 21, .int qg_38), (r0, 15, 34, .int qu_38), (r0, 15, 5, .int pn), (r0, 15, 11, .int py), (r0, 15, 22, .ref zg), (r0, 15, 25, .ref zh), (r0, 15, 27, .ref zp), (r0, 15, 23, .ref zv), (r0, 15, 0, .ref zs), (r0, 15, 1, .ref zn), (r0, 15, 2, .ref za), (r0, 15, 3, .ref zb), (r0, 15, 4, .ref zc), (r0, 15, 14, .ref zy)]) [0, 1, 2, 3, 4, 5, 6, 7, 8, 9, 10, 11, 12, 13, 14] rfl rfl (M1 := [(zg, 161, 46, ca 1, gg_38), (zs, 150, 120000, ca 1, C.s), (zn, 151, 120000, ca 1, C.n), (za, 152, 120000, ca 1, C.a), (zb, 153, 120000, ca 1, C.b), (zc, 154, 120000, ca 1, C.c), (zy, 165, 16, ca 1, C.y)]) [2, 3, 4, 5, 6, 7, 8] rfl rfl (I1 := []) [] rfl rfl).more hb_595).moreM hb_596
                  clear hh_55 ht_59 hvm_59 hz_59 hk_59 hS_59 hb_591 hb_592 hb_593 hb_594 hb_595
                  clear hb_596
                  try simp only at hr_60
                  have d2 := hr_60.1.2 1 (by omega) (by omega)
                  obtain ⟨z_61, ez_61⟩ : ∃ y : Int32, y = v4_41 + 1 := ⟨_, rfl⟩
                  refine lv_iinc (v := z_61) (lv' := [(4, .int z_61), (0, .ref r0), (1, .int a1), (2, .int z_1), (3, .int z_2)]) hx hb dX13_cases_159 hl (k := 4) rfl (by rw [ez_61]; rfl) (by decide) rfl (fun ls hl => ?_)
                  have hz_61 : z_61.toInt = v4_41.toInt + 1 := by rw [ez_61]; exact jb_iadd2 (rfl) (by decide) (by omega)
                  refine lv_goto (tgt := 104) hx hb dX13_cases_162 (by decide) ?_
                  exact L104 z_61 gh_59 gp_59 _ _ (hh_59.sub (L1 := [(r0, 15, 21, .int qg_38), (r0, 15, 34, .int qu_38), (r0, 15, 5, .int pn), (r0, 15, 11, .int py), (r0, 15, 22, .ref zg), (r0, 15, 25, .ref zh), (r0, 15, 27, .ref zp), (r0, 15, 23, .ref zv), (r0, 15, 0, .ref zs), (r0, 15, 1, .ref zn), (r0, 15, 2, .ref za), (r0, 15, 3, .ref zb), (r0, 15, 4, .ref zc), (r0, 15, 14, .ref zy)]) [1, 2, 3, 4, 5, 6, 7, 8, 9, 10, 11, 12, 13, 14] rfl (M1 := [(zp, 162, 368, ca 1, gp_59), (zh, 159, 46, ca 1, gh_59), (zg, 161, 46, ca 1, gg_38), (zs, 150, 120000, ca 1, C.s), (zn, 151, 120000, ca 1, C.n), (za, 152, 120000, ca 1, C.a), (zb, 153, 120000, ca 1, C.b), (zc, 154, 120000, ca 1, C.c), (zy, 165, 16, ca 1, C.y)]) [1, 0, 2, 3, 4, 5, 6, 7, 8] rfl (I1 := []) [] rfl) (⟨(by first | omega | rfl | assumption | exact gl0 | (intro _; omega) | exact (hi_41_2.drop hr_44 (by omega) (by omega) (by omega)).add hr_60 (by first | (rw [hqz_58, hqz_1]; exact k2.1) | (rw [(zz_none), hqz_1]; exact k2.2.1)) (by omega) (by omega) (by omega) (by omega) (by omega) | (intro h9; exact absurd h9 (by omega)) | (intro h9; rw [d2 (by omega), d1 (by omega)]; exact hi_41_4 (by omega))), (by first | omega | rfl | assumption | exact gl0 | (intro _; omega) | exact (hi_41_2.drop hr_44 (by omega) (by omega) (by omega)).add hr_60 (by first | (rw [hqz_58, hqz_1]; exact k2.1) | (rw [(zz_none), hqz_1]; exact k2.2.1)) (by omega) (by omega) (by omega) (by omega) (by omega) | (intro h9; exact absurd h9 (by omega)) | (intro h9; rw [d2 (by omega), d1 (by omega)]; exact hi_41_4 (by omega))), (by first | assumption | exact gl0 | (intro _; omega) | exact (hi_41_2.drop hr_44 (by omega) (by omega) (by omega)).add hr_60 (by first | (rw [hqz_58, hqz_1]; exact k2.1) | (rw [(zz_none), hqz_1]; exact k2.2.1)) (by omega) (by omega) (by omega) (by omega) (by omega) | (intro h9; exact absurd h9 (by omega)) | (intro h9; rw [d2 (by omega), d1 (by omega)]; exact hi_41_4 (by omega)) | omega), (by first | assumption | exact gl0 | (intro _; omega) | exact (hi_41_2.drop hr_44 (by omega) (by omega) (by omega)).add hr_60 (by first | (rw [hqz_58, hqz_1]; exact k2.1) | (rw [(zz_none), hqz_1]; exact k2.2.1)) (by omega) (by omega) (by omega) (by omega) (by omega) | (intro h9; exact absurd h9 (by omega)) | (intro h9; rw [d2 (by omega), d1 (by omega)]; exact hi_41_4 (by omega)) | omega), (by first | assumption | exact gl0 | (intro _; omega) | exact (hi_41_2.drop hr_44 (by omega) (by omega) (by omega)).add hr_60 (by first | (rw [hqz_58, hqz_1]; exact k2.1) | (rw [(zz_none), hqz_1]; exact k2.2.1)) (by omega) (by omega) (by omega) (by omega) (by omega) | (intro h9; exact absurd h9 (by omega)) | (intro h9; rw [d2 (by omega), d1 (by omega)]; exact hi_41_4 (by omega)) | omega)⟩) (by omega) _ (lv_sub hl [1, 2, 3, 4, 0] rfl)
        exact L104 (2 - (0 : Int32).toInt : Int).toNat.succ 0 gh_38 gp_38 _ _ (hh_38.sub (L1 := [(r0, 15, 21, .int qg_38), (r0, 15, 34, .int qu_38), (r0, 15, 5, .int pn), (r0, 15, 11, .int py), (r0, 15, 22, .ref zg), (r0, 15, 25, .ref zh), (r0, 15, 27, .ref zp), (r0, 15, 23, .ref zv), (r0, 15, 0, .ref zs), (r0, 15, 1, .ref zn), (r0, 15, 2, .ref za), (r0, 15, 3, .ref zb), (r0, 15, 4, .ref zc), (r0, 15, 14, .ref zy)]) [0, 1, 2, 3, 4, 5, 6, 7, 8, 9, 10, 11, 12, 13] rfl (M1 := [(zp, 162, 368, ca 1, gp_38), (zh, 159, 46, ca 1, gh_38), (zg, 161, 46, ca 1, gg_38), (zs, 150, 120000, ca 1, C.s), (zn, 151, 120000, ca 1, C.n), (za, 152, 120000, ca 1, C.a), (zb, 153, 120000, ca 1, C.b), (zc, 154, 120000, ca 1, C.c), (zy, 165, 16, ca 1, C.y)]) [2, 1, 0, 3, 4, 5, 6, 7, 8] rfl (I1 := []) [] rfl) (⟨(by first | omega | rfl | assumption | exact gl0 | (intro _; omega) | exact ((zz_none).drop hr_44 (by omega) (by omega) (by omega)).add hr_60 (by first | (rw [hqz_58, hqz_1]; exact k2.1) | (rw [(zz_none), hqz_1]; exact k2.2.1)) (by omega) (by omega) (by omega) (by omega) (by omega) | (intro h9; exact absurd h9 (by omega)) | (intro h9; rw [d2 (by omega), d1 (by omega)]; exact (zz_none) (by omega))), (by first | omega | rfl | assumption | exact gl0 | (intro _; omega) | exact ((zz_none).drop hr_44 (by omega) (by omega) (by omega)).add hr_60 (by first | (rw [hqz_58, hqz_1]; exact k2.1) | (rw [(zz_none), hqz_1]; exact k2.2.1)) (by omega) (by omega) (by omega) (by omega) (by omega) | (intro h9; exact absurd h9 (by omega)) | (intro h9; rw [d2 (by omega), d1 (by omega)]; exact (zz_none) (by omega))), (by first | assumption | exact gl0 | (intro _; omega) | exact ((zz_none).drop hr_44 (by omega) (by omega) (by omega)).add hr_60 (by first | (rw [hqz_58, hqz_1]; exact k2.1) | (rw [(zz_none), hqz_1]; exact k2.2.1)) (by omega) (by omega) (by omega) (by omega) (by omega) | (intro h9; exact absurd h9 (by omega)) | (intro h9; rw [d2 (by omega), d1 (by omega)]; exact (zz_none) (by omega)) | omega), (by first | assumption | exact gl0 | (intro _; omega) | exact ((zz_none).drop hr_44 (by omega) (by omega) (by omega)).add hr_60 (by first | (rw [hqz_58, hqz_1]; exact k2.1) | (rw [(zz_none), hqz_1]; exact k2.2.1)) (by omega) (by omega) (by omega) (by omega) (by omega) | (intro h9; exact absurd h9 (by omega)) | (intro h9; rw [d2 (by omega), d1 (by omega)]; exact (zz_none) (by omega)) | omega), (by first | assumption | exact gl0 | (intro _; omega) | exact ((zz_none).drop hr_44 (by omega) (by omega) (by omega)).add hr_60 (by first | (rw [hqz_58, hqz_1]; exact k2.1) | (rw [(zz_none), hqz_1]; exact k2.2.1)) (by omega) (by omega) (by omega) (by omega) (by omega) | (intro h9; exact absurd h9 (by omega)) | (intro h9; rw [d2 (by omega), d1 (by omega)]; exact (zz_none) (by omega)) | omega)⟩) (by omega) _ (lv_sub hl [3, 4, 2, 1, 0] rfl)
      · skip
        have c_40' : qu_38.toInt > 0 := jb_le_n (rfl) ((by decide)) c_40
        rw [hQ]
        exact W.vret hx hb hr (fun t ht hW => ⟨⟨(pn, qu_38, qg_38, gg_38, gh_38, gp_38, C), rfl, by (try dsimp only); obtain ⟨e1, e2, e3, e4⟩ := hr_39_5 (by omega); refine ⟨by omega, by omega, by omega, by omega, by omega, by omega, jAgK.rf _ _, ?_⟩; rw [e1, e2, e3, e4]; exact hp0, ⟨hh_38.rt (M1 := [(r0, 15, 5, .int pn), (r0, 15, 34, .int qu_38), (r0, 15, 21, .int qg_38)]) [2, 1, 0] rfl ht, by rw [ht]; exact hh_38.2.2.2.2.2.2.2.1.sub [0, 1, 2, 3, 4, 5, 6, 7, 8] rfl⟩⟩, by rw [ht]; try exact hh_38.1.1, fun q h9 hq => by rw [ht]; try exact hh_38.1.2.1 q h9 hq⟩) hh_38.1.2.2 dX13_cases_100
  · skip
    have c_3' : z_2.toInt = 1 := jb_ne_n (rfl) ((by decide)) c_3
    refine lv_aload_n hx hb dX13_cases_19 rfl (lv_at hl 2 rfl) ?_
    refine j7_read hx hb hown hK (C := RX13) (T := TX13) (N := 50) rfl hly_15_25 hlk_62 (hh.at 5 rfl) dX13_cases_20 ?_
    refine lv_iconst (v := 0) hx hb dX13_cases_23 (by decide) ?_
    refine j7_ialdM hx hb hK hh hB159 1 rfl (by decide) hg_zh (x := 0) ((by decide)) (by omega) (j := 1) rfl dX13_cases_24 (fun z_62 ez_62 (hz_62 : 0 ≤ z_62.toInt ∧ z_62.toInt ≤ 8) => ?_)
    have hqz_62 : z_62.toInt = jSo fh (0) := by unfold jSo; rw [ez_62]
    refine lv_bipush (v := 8) hx hb dX13_cases_25 (by decide) ?_
    refine lv_icmp_ne (tgt := 36) hx hb dX13_cases_27 (by decide) (fun c_63 => ?_) (fun c_63 => ?_)
    · skip
      have c_63' : z_62.toInt ≠ 8 := jb_ne (rfl) ((by decide)) c_63
      refine lv_aload_n hx hb dX13_cases_36 rfl (lv_at hl 2 rfl) ?_
      refine j7_read hx hb hown hK (C := RX13) (T := TX13) (N := 50) rfl hly_15_34 hlk_221 (hh.at 1 rfl) dX13_cases_37 ?_
      refine lv_if_le (tgt := 44) hx hb dX13_cases_40 (by decide) (fun c_64 => ?_) (fun c_64 => ?_)
      · skip
        have c_64' : pu.toInt ≤ 0 := jb_le (rfl) ((by decide)) c_64
        have k2 := hf.sub2 (by omega)
        have ka := k2.1.rng
        have kb := k2.2.1.rng
        refine lv_aload_n hx hb dX13_cases_44 rfl (lv_at hl 2 rfl) ?_
        refine lv_iconst (v := 0) hx hb dX13_cases_45 (by decide) ?_
        refine lv_iload_n hx hb dX13_cases_46 rfl (lv_at hl 3 rfl) ?_
        refine va_callv (A0 := jA base) (H0 := s.heap) (va_runV (As := [.int 0, .int a1]) (rest := []) ⟨hx, hb, hml, hown, hts⟩ (uX13_dropHyp l dC dI ca base B hB hAp hB15 hB159 hB162 hB163 G0 s.heap r0 0 a1 zh zp fh fp) (cwV 2 hts (jgV (jWr_68 _ (List.mem_of_getElem? (i := 19) rfl)) (jWr_68 _ (List.mem_of_getElem? (i := 20) rfl)) (jWr_68 _ (List.mem_of_getElem? (i := 21) rfl)) (jWr_12 _ (List.mem_of_getElem? (i := 12) rfl)) (jWr_68 _ (List.mem_of_getElem? (i := 22) rfl))) rfl rfl rfl (by decide +kernel) ⟨by rw [← hR]; exact Nat.le_of_ble_eq_true rfl, by rw [← hR]; exact Nat.le_of_ble_eq_true rfl⟩) ⟨fun a U g mk q => by obtain ⟨q0, q1, q2, qK, q10, q11, q12, q13, q14, q15⟩ := q; exact ⟨q0, q1, q2, jG.calling g mk a qK, q10, q11, q12, q13, q14, q15⟩, hh.recv (C := RX13) (T := TX13) (N := 50) hB15 rfl (by decide) hg_r0 hK, fun U hU hW => ⟨rfl, hU, hh.2.1, hG.step hW hU hh.1, hg_r0, hg_zh, hg_zp, (hh.2.2.1.sub (L1 := [(r0, 15, 25, .ref zh), (r0, 15, 27, .ref zp)]) [5, 6] rfl), (hh.2.2.2.2.2.2.2.1.sub (L1 := [(zh, 159, 46, ca 1, fh), (zp, 162, 368, ca 1, fp)]) [1, 2] rfl), ⟨(by first | omega | rfl | assumption | (rw [hk0]; omega)), (by first | omega | rfl | assumption | (rw [hk0]; omega)), (by first | omega | rfl | assumption | (rw [hk0]; omega)), (by first | omega | rfl | assumption | (rw [hk0]; omega)), (by first | omega | rfl | assumption | (rw [hk0]; omega))⟩⟩⟩ rfl rfl hl.1 rfl (lv_room (Nat.le_of_ble_eq_true rfl)) dX13_cases_47 ⟨Nat.zero_le _, Nat.zero_le _⟩) hh.1 (fun q _ h => h) (fun q h => h) (fun u_65 t_65 H_65 locs_65 ht_65 hvm_65 hr_66 hb_65 hz_65 hk_65 hS_65 => ?_)
        obtain ⟨gh_65, gp_65⟩ := u_65
        rw [ht_65] at hb_65
        obtain ⟨⟨hb_651, hb_652, hb_653, hb_654, hb_655⟩, hb_656⟩ := hb_65
        have hh_65 : jSt (dC, dI) B base G0 G0 EX13_cases s.heap 0 0 [(r0, 15, 5, .int pn), (r0, 15, 34, .int pu), (r0, 15, 11, .int py), (r0, 15, 21, .int pg), (r0, 15, 22, .ref zg), (r0, 15, 25, .ref zh), (r0, 15, 27, .ref zp), (r0, 15, 23, .ref zv), (r0, 15, 0, .ref zs), (r0, 15, 1, .ref zn), (r0, 15, 2, .ref za), (r0, 15, 3, .ref zb), (r0, 15, 4, .ref zc), (r0, 15, 14, .ref zy)] [(zh, 159, 46, ca 1, gh_65), (zp, 162, 368, ca 1, gp_65), (zg, 161, 46, ca 1, fg), (zv, 158, 46, ca 1, fv), (zs, 150, 120000, ca 1, C.s), (zn, 151, 120000, ca 1, C.n), (za, 152, 120000, ca 1, C.a), (zb, 153, 120000, ca 1, C.b), (zc, 154, 120000, ca 1, C.c), (zy, 165, 16, ca 1, C.y)] [] H_65 locs_65 := ((hh.call hb_651 hb_652 hb_653 hb_654 hS_65 rfl (L1 := [(r0, 15, 5, .int pn), (r0, 15, 34, .int pu), (r0, 15, 11, .int py), (r0, 15, 21, .int pg), (r0, 15, 22, .ref zg), (r0, 15, 25, .ref zh), (r0, 15, 27, .ref zp), (r0, 15, 23, .ref zv), (r0, 15, 0, .ref zs), (r0, 15, 1, .ref zn), (r0, 15, 2, .ref za), (r0, 15, 3, .ref zb), (r0, 15, 4, .ref zc), (r0, 15, 14, .ref zy)]) [0, 1, 2, 3, 4, 5, 6, 7, 8, 9, 10, 11, 12, 13] rfl rfl (M1 := [(zg, 161, 46, ca 1, fg), (zv, 158, 46, ca 1, fv), (zs, 150, 120000, ca 1, C.s), (zn, 151, 120000, ca 1, C.n), (za, 152, 120000, ca 1, C.a), (zb, 153, 120000, ca 1, C.b), (zc, 154, 120000, ca 1, C.c), (zy, 165, 16, ca 1, C.y)]) [0, 3, 4, 5, 6, 7, 8, 9] rfl rfl (I1 := []) [] rfl rfl).more hb_655).moreM hb_656
        clear hh ht_65 hvm_65 hz_65 hk_65 hS_65 hb_651 hb_652 hb_653 hb_654 hb_655
        clear hb_656
        try simp only at hr_66
        rw [hk0] at hr_66
        have d0 := hr_66.1.1
        have gl1 := hp0.drop hr_66 (by omega) (by omega) (by omega)
        refine lv_aload_n hx hb dX13_cases_50 rfl (lv_at hl 2 rfl) ?_
        refine lv_iconst (v := 0) hx hb dX13_cases_51 (by decide) ?_
        refine lv_aload_n hx hb dX13_cases_52 rfl (lv_at hl 2 rfl) ?_
        obtain ⟨v_67, hv_67, hh_68⟩ := hh_65.pin (C := RX13) (T := TX13) (N := 50) hB15 rfl (by decide) hg_r0 (i := 39) (by decide) rfl
        clear hh_65
        obtain ⟨name2_69, rfl, hloname2_69, hhiname2_69⟩ := hv_67
        refine j7_read hx hb hown hK (C := RX13) (T := TX13) (N := 50) rfl hly_15_39 hlk_303 (hh_68.at 0 rfl) dX13_cases_53 ?_
        refine lv_aload_n hx hb dX13_cases_56 rfl (lv_at hl 2 rfl) ?_
        refine j7_read hx hb hown hK (C := RX13) (T := TX13) (N := 50) rfl hly_15_2 hlk_19 (hh_68.at 11 rfl) dX13_cases_57 ?_
        refine lv_iload_n hx hb dX13_cases_60 rfl (lv_at hl 1 rfl) ?_
        refine j7_ialdM hx hb hK hh_68 hB152 1 rfl (by decide) hg_za (x := z_1.toInt) (rfl) (by omega) (j := 6) rfl dX13_cases_61 (fun z_70 ez_70 (hz_70 : True) => ?_)
        have hqz_70 : z_70.toInt = jSo C.a (z_1.toInt) := by unfold jSo; rw [ez_70]
        refine va_callv (A0 := jA base) (H0 := s.heap) (va_runV (As := [.int 0, .int name2_69, .int z_70]) (rest := []) ⟨hx, hb, hml, hown, hts⟩ (uX13_addHyp l dC dI ca base B hB hAp hB15 hB159 hB162 hB163 G0 H_65 r0 0 name2_69 z_70 zh zp gh_65 gp_65) (cwV 3 hts (jgV (jWr_66 _ (List.mem_of_getElem? (i := 19) rfl)) (jWr_66 _ (List.mem_of_getElem? (i := 20) rfl)) (jWr_66 _ (List.mem_of_getElem? (i := 21) rfl)) (jWr_12 _ (List.mem_of_getElem? (i := 12) rfl)) (jWr_66 _ (List.mem_of_getElem? (i := 22) rfl))) rfl rfl rfl (by decide +kernel) ⟨by rw [← hR]; exact Nat.le_of_ble_eq_true rfl, by rw [← hR]; exact Nat.le_of_ble_eq_true rfl⟩) ⟨fun a U g mk q => by obtain ⟨q0, q1, q2, qK, q10, q11, q12, q13, q14, q15⟩ := q; exact ⟨q0, q1, q2, jG.calling g mk a qK, q10, q11, q12, q13, q14, q15⟩, hh_68.recv (C := RX13) (T := TX13) (N := 50) hB15 rfl (by decide) hg_r0 hK, fun U hU hW => ⟨rfl, hU, hh_68.2.1, hG.step hW hU hh_68.1, hg_r0, hg_zh, hg_zp, (hh_68.2.2.1.sub (L1 := [(r0, 15, 25, .ref zh), (r0, 15, 27, .ref zp)]) [6, 7] rfl), (hh_68.2.2.2.2.2.2.2.1.sub (L1 := [(zh, 159, 46, ca 1, gh_65), (zp, 162, 368, ca 1, gp_65)]) [0, 1] rfl), ⟨(by first | omega | rfl | assumption | (rw [hk0]; omega) | (rw [hqz_70, hqz_1]; omega)), (by first | omega | rfl | assumption | (rw [hk0]; omega) | (rw [hqz_70, hqz_1]; omega)), (by first | omega | rfl | assumption | (rw [hk0]; omega) | (rw [hqz_70, hqz_1]; omega)), (by first | omega | rfl | assumption | (rw [hk0]; omega) | (rw [hqz_70, hqz_1]; omega)), (by first | omega | rfl | assumption | (rw [hk0]; omega) | (rw [hqz_70, hqz_1]; omega)), (by first | omega | rfl | assumption | (rw [hk0]; omega) | (rw [hqz_70, hqz_1]; omega)), (by first | omega | rfl | assumption | (rw [hk0]; omega) | (rw [hqz_70, hqz_1]; omega)), (by first | omega | rfl | assumption | (rw [hk0]; omega) | (rw [hqz_70, hqz_1]; omega))⟩⟩⟩ rfl rfl hl.1 rfl (lv_room (Nat.le_of_ble_eq_true rfl)) dX13_cases_62 ⟨Nat.zero_le _, Nat.zero_le _⟩) hh_68.1 (fun q _ h => h) (fun q h => h) (fun u_71 t_71 H_71 locs_71 ht_71 hvm_71 hr_72 hb_71 hz_71 hk_71 hS_71 => ?_)
        obtain ⟨gh_71, gp_71⟩ := u_71
        rw [ht_71] at hb_71
        obtain ⟨⟨hb_711, hb_712, hb_713, hb_714, hb_715⟩, hb_716⟩ := hb_71
        have hh_71 : jSt (dC, dI) B base G0 G0 EX13_cases s.heap 0 0 [(r0, 15, 39, .int name2_69), (r0, 15, 5, .int pn), (r0, 15, 34, .int pu), (r0, 15, 11, .int py), (r0, 15, 21, .int pg), (r0, 15, 22, .ref zg), (r0, 15, 25, .ref zh), (r0, 15, 27, .ref zp), (r0, 15, 23, .ref zv), (r0, 15, 0, .ref zs), (r0, 15, 1, .ref zn), (r0, 15, 2, .ref za), (r0, 15, 3, .ref zb), (r0, 15, 4, .ref zc), (r0, 15, 14, .ref zy)] [(zh, 159, 46, ca 1, gh_71), (zp, 162, 368, ca 1, gp_71), (zg, 161, 46, ca 1, fg), (zv, 158, 46, ca 1, fv), (zs, 150, 120000, ca 1, C.s), (zn, 151, 120000, ca 1, C.n), (za, 152, 120000, ca 1, C.a), (zb, 153, 120000, ca 1, C.b), (zc, 154, 120000, ca 1, C.c), (zy, 165, 16, ca 1, C.y)] [] H_71 locs_71 := ((hh_68.call hb_711 hb_712 hb_713 hb_714 hS_71 rfl (L1 := [(r0, 15, 39, .int name2_69), (r0, 15, 5, .int pn), (r0, 15, 34, .int pu), (r0, 15, 11, .int py), (r0, 15, 21, .int pg), (r0, 15, 22, .ref zg), (r0, 15, 25, .ref zh), (r0, 15, 27, .ref zp), (r0, 15, 23, .ref zv), (r0, 15, 0, .ref zs), (r0, 15, 1, .ref zn), (r0, 15, 2, .ref za), (r0, 15, 3, .ref zb), (r0, 15, 4, .ref zc), (r0, 15, 14, .ref zy)]) [0, 1, 2, 3, 4, 5, 6, 7, 8, 9, 10, 11, 12, 13, 14] rfl rfl (M1 := [(zg, 161, 46, ca 1, fg), (zv, 158, 46, ca 1, fv), (zs, 150, 120000, ca 1, C.s), (zn, 151, 120000, ca 1, C.n), (za, 152, 120000, ca 1, C.a), (zb, 153, 120000, ca 1, C.b), (zc, 154, 120000, ca 1, C.c), (zy, 165, 16, ca 1, C.y)]) [2, 3, 4, 5, 6, 7, 8, 9] rfl rfl (I1 := []) [] rfl rfl).more hb_715).moreM hb_716
        clear hh_68 ht_71 hvm_71 hz_71 hk_71 hS_71 hb_711 hb_712 hb_713 hb_714 hb_715
        clear hb_716
        try simp only at hr_72
        rw [hk0] at hr_72
        have d1 := hr_72.1.1
        have gl2 := gl1.add hr_72 (by rw [hqz_70, hqz_1]; exact k2.1) (by omega) (by omega) (by omega) (by omega) (by omega)
        refine lv_aload_n hx hb dX13_cases_65 rfl (lv_at hl 2 rfl) ?_
        refine lv_iconst (v := 0) hx hb dX13_cases_66 (by decide) ?_
        refine lv_aload_n hx hb dX13_cases_67 rfl (lv_at hl 2 rfl) ?_
        obtain ⟨v_73, hv_73, hh_74⟩ := hh_71.pin (C := RX13) (T := TX13) (N := 50) hB15 rfl (by decide) hg_r0 (i := 40) (by decide) rfl
        clear hh_71
        obtain ⟨name3_75, rfl, hloname3_75, hhiname3_75⟩ := hv_73
        refine j7_read hx hb hown hK (C := RX13) (T := TX13) (N := 50) rfl hly_15_40 hlk_306 (hh_74.at 0 rfl) dX13_cases_68 ?_
        refine lv_aload_n hx hb dX13_cases_71 rfl (lv_at hl 2 rfl) ?_
        refine j7_read hx hb hown hK (C := RX13) (T := TX13) (N := 50) rfl hly_15_3 hlk_22 (hh_74.at 13 rfl) dX13_cases_72 ?_
        refine lv_iload_n hx hb dX13_cases_75 rfl (lv_at hl 1 rfl) ?_
        refine j7_ialdM hx hb hK hh_74 hB153 1 rfl (by decide) hg_zb (x := z_1.toInt) (rfl) (by omega) (j := 7) rfl dX13_cases_76 (fun z_76 ez_76 (hz_76 : True) => ?_)
        have hqz_76 : z_76.toInt = jSo C.b (z_1.toInt) := by unfold jSo; rw [ez_76]
        refine va_callv (A0 := jA base) (H0 := s.heap) (va_runV (As := [.int 0, .int name3_75, .int z_76]) (rest := []) ⟨hx, hb, hml, hown, hts⟩ (uX13_addHyp l dC dI ca base B hB hAp hB15 hB159 hB162 hB163 G0 H_71 r0 0 name3_75 z_76 zh zp gh_71 gp_71) (cwV 3 hts (jgV (jWr_66 _ (List.mem_of_getElem? (i := 19) rfl)) (jWr_66 _ (List.mem_of_getElem? (i := 20) rfl)) (jWr_66 _ (List.mem_of_getElem? (i := 21) rfl)) (jWr_12 _ (List.mem_of_getElem? (i := 12) rfl)) (jWr_66 _ (List.mem_of_getElem? (i := 22) rfl))) rfl rfl rfl (by decide +kernel) ⟨by rw [← hR]; exact Nat.le_of_ble_eq_true rfl, by rw [← hR]; exact Nat.le_of_ble_eq_true rfl⟩) ⟨fun a U g mk q => by obtain ⟨q0, q1, q2, qK, q10, q11, q12, q13, q14, q15⟩ := q; exact ⟨q0, q1, q2, jG.calling g mk a qK, q10, q11, q12, q13, q14, q15⟩, hh_74.recv (C := RX13) (T := TX13) (N := 50) hB15 rfl (by decide) hg_r0 hK, fun U hU hW => ⟨rfl, hU, hh_74.2.1, hG.step hW hU hh_74.1, hg_r0, hg_zh, hg_zp, (hh_74.2.2.1.sub (L1 := [(r0, 15, 25, .ref zh), (r0, 15, 27, .ref zp)]) [7, 8] rfl), (hh_74.2.2.2.2.2.2.2.1.sub (L1 := [(zh, 159, 46, ca 1, gh_71), (zp, 162, 368, ca 1, gp_71)]) [0, 1] rfl), ⟨(by first | omega | rfl | assumption | (rw [hk0]; omega) | (rw [hqz_76, hqz_1]; omega)), (by first | omega | rfl | assumption | (rw [hk0]; omega) | (rw [hqz_76, hqz_1]; omega)), (by first | omega | rfl | assumption | (rw [hk0]; omega) | (rw [hqz_76, hqz_1]; omega)), (by first | omega | rfl | assumption | (rw [hk0]; omega) | (rw [hqz_76, hqz_1]; omega)), (by first | omega | rfl | assumption | (rw [hk0]; omega) | (rw [hqz_76, hqz_1]; omega)), (by first | omega | rfl | assumption | (rw [hk0]; omega) | (rw [hqz_76, hqz_1]; omega)), (by first | omega | rfl | assumption | (rw [hk0]; omega) | (rw [hqz_76, hqz_1]; omega)), (by first | omega | rfl | assumption | (rw [hk0]; omega) | (rw [hqz_76, hqz_1]; omega))⟩⟩⟩ rfl rfl hl.1 rfl (lv_room (Nat.le_of_ble_eq_true rfl)) dX13_cases_77 ⟨Nat.zero_le _, Nat.zero_le _⟩) hh_74.1 (fun q _ h => h) (fun q h => h) (fun u_77 t_77 H_77 locs_77 ht_77 hvm_77 hr_78 hb_77 hz_77 hk_77 hS_77 => ?_)
        obtain ⟨gh_77, gp_77⟩ := u_77
        rw [ht_77] at hb_77
        obtain ⟨⟨hb_771, hb_772, hb_773, hb_774, hb_775⟩, hb_776⟩ := hb_77
        have hh_77 : jSt (dC, dI) B base G0 G0 EX13_cases s.heap 0 0 [(r0, 15, 40, .int name3_75), (r0, 15, 39, .int name2_69), (r0, 15, 5, .int pn), (r0, 15, 34, .int pu), (r0, 15, 11, .int py), (r0, 15, 21, .int pg), (r0, 15, 22, .ref zg), (r0, 15, 25, .ref zh), (r0, 15, 27, .ref zp), (r0, 15, 23, .ref zv), (r0, 15, 0, .ref zs), (r0, 15, 1, .ref zn), (r0, 15, 2, .ref za), (r0, 15, 3, .ref zb), (r0, 15, 4, .ref zc), (r0, 15, 14, .ref zy)] [(zh, 159, 46, ca 1, gh_77), (zp, 162, 368, ca 1, gp_77), (zg, 161, 46, ca 1, fg), (zv, 158, 46, ca 1, fv), (zs, 150, 120000, ca 1, C.s), (zn, 151, 120000, ca 1, C.n), (za, 152, 120000, ca 1, C.a), (zb, 153, 120000, ca 1, C.b), (zc, 154, 120000, ca 1, C.c), (zy, 165, 16, ca 1, C.y)] [] H_77 locs_77 := ((hh_74.call hb_771 hb_772 hb_773 hb_774 hS_77 rfl (L1 := [(r0, 15, 40, .int name3_75), (r0, 15, 39, .int name2_69), (r0, 15, 5, .int pn), (r0, 15, 34, .int pu), (r0, 15, 11, .int py), (r0, 15, 21, .int pg), (r0, 15, 22, .ref zg), (r0, 15, 25, .ref zh), (r0, 15, 27, .ref zp), (r0, 15, 23, .ref zv), (r0, 15, 0, .ref zs), (r0, 15, 1, .ref zn), (r0, 15, 2, .ref za), (r0, 15, 3, .ref zb), (r0, 15, 4, .ref zc), (r0, 15, 14, .ref zy)]) [0, 1, 2, 3, 4, 5, 6, 7, 8, 9, 10, 11, 12, 13, 14, 15] rfl rfl (M1 := [(zg, 161, 46, ca 1, fg), (zv, 158, 46, ca 1, fv), (zs, 150, 120000, ca 1, C.s), (zn, 151, 120000, ca 1, C.n), (za, 152, 120000, ca 1, C.a), (zb, 153, 120000, ca 1, C.b), (zc, 154, 120000, ca 1, C.c), (zy, 165, 16, ca 1, C.y)]) [2, 3, 4, 5, 6, 7, 8, 9] rfl rfl (I1 := []) [] rfl rfl).more hb_775).moreM hb_776
        clear hh_74 ht_77 hvm_77 hz_77 hk_77 hS_77 hb_771 hb_772 hb_773 hb_774 hb_775
        clear hb_776
        try simp only at hr_78
        rw [hk0] at hr_78
        refine lv_goto (tgt := 277) hx hb dX13_cases_80 (by decide) ?_
        rw [hQ]
        exact W.vret hx hb hr (fun t ht hW => ⟨⟨(pn, pu, pg, fg, gh_77, gp_77, C), rfl, by (try dsimp only); exact ⟨by omega, by omega, by omega, by omega, by omega, by omega, jAgK.rf _ _, gl2.add hr_78 (by rw [hqz_76, hqz_1]; exact k2.2.1) (by omega) (by omega) (by omega) (by omega) (by omega)⟩, ⟨hh_77.rt (M1 := [(r0, 15, 5, .int pn), (r0, 15, 34, .int pu), (r0, 15, 21, .int pg)]) [2, 3, 5] rfl ht, by rw [ht]; exact hh_77.2.2.2.2.2.2.2.1.sub [2, 0, 1, 4, 5, 6, 7, 8, 9] rfl⟩⟩, by rw [ht]; try exact hh_77.1.1, fun q h9 hq => by rw [ht]; try exact hh_77.1.2.1 q h9 hq⟩) hh_77.1.2.2 dX13_cases_277
      · skip
        have c_64' : pu.toInt > 0 := jb_le_n (rfl) ((by decide)) c_64
        rw [hQ]
        exact W.vret hx hb hr (fun t ht hW => ⟨⟨(pn, pu, pg, fg, fh, fp, C), rfl, by (try dsimp only); exact ⟨by omega, by omega, by omega, by omega, by omega, by omega, jAgK.rf _ _, hp0⟩, ⟨hh.rt (M1 := [(r0, 15, 5, .int pn), (r0, 15, 34, .int pu), (r0, 15, 21, .int pg)]) [0, 1, 3] rfl ht, by rw [ht]; exact hh.2.2.2.2.2.2.2.1.sub [0, 1, 2, 4, 5, 6, 7, 8, 9] rfl⟩⟩, by rw [ht]; try exact hh.1.1, fun q h9 hq => by rw [ht]; try exact hh.1.2.1 q h9 hq⟩) hh.1.2.2 dX13_cases_43
    · skip
      have c_63' : z_62.toInt = 8 := jb_ne_n (rfl) ((by decide)) c_63
      refine lv_aload_n hx hb dX13_cases_30 rfl (lv_at hl 2 rfl) ?_
      refine lv_bipush (v := 9) hx hb dX13_cases_31 (by decide) ?_
      refine va_callv (A0 := jA base) (H0 := s.heap) (va_runV (As := [.int 9]) (rest := []) ⟨hx, hb, hml, hown, hts⟩ (uX13_failsK l dC dI ca base B hB hAp hB15 G0 s.heap r0 9 pu) (cwV 1 hts (jgV (jWr_64 _ (List.mem_of_getElem? (i := 19) rfl)) (jWr_64 _ (List.mem_of_getElem? (i := 20) rfl)) (jWr_64 _ (List.mem_of_getElem? (i := 21) rfl)) (jWr_12 _ (List.mem_of_getElem? (i := 12) rfl)) (jWr_64 _ (List.mem_of_getElem? (i := 22) rfl))) rfl rfl rfl (by decide +kernel) ⟨by rw [← hR]; exact Nat.le_of_ble_eq_true rfl, by rw [← hR]; exact Nat.le_of_ble_eq_true rfl⟩) ⟨fun a U g mk q => by obtain ⟨q0, q1, q2, qK, q10, q11, q12⟩ := q; exact ⟨q0, q1, q2, jG.calling g mk a qK, q10, q11, q12⟩, hh.recv (C := RX13) (T := TX13) (N := 50) hB15 rfl (by decide) hg_r0 hK, fun U hU hW => ⟨rfl, hU, hh.2.1, hG.step hW hU hh.1, hg_r0, (hh.2.2.1.sub (L1 := [(r0, 15, 34, .int pu)]) [1] rfl), by first | omega | (refine ⟨?_, ?_, ?_, ?_⟩ <;> (first | omega | rfl | assumption | decide | exact Or.inl rfl | exact Or.inr rfl | (simp only; omega)))⟩⟩ rfl rfl hl.1 rfl (lv_room (Nat.le_of_ble_eq_true rfl)) dX13_cases_33 ⟨Nat.zero_le _, Nat.zero_le _⟩) hh.1 (fun q _ h => h) (fun q h => h) (fun u_79 t_79 H_79 locs_79 ht_79 hvm_79 hr_80 hb_79 hz_79 hk_79 hS_79 => ?_)
      obtain ⟨qu_79, rfl⟩ : ∃ z, z = u_79 := ⟨_, rfl⟩
      rw [ht_79] at hb_79
      obtain ⟨hb_791, hb_792, hb_793, hb_794, hb_795⟩ := hb_79
      have hh_79 : jSt (dC, dI) B base G0 G0 EX13_cases s.heap 0 0 [(r0, 15, 34, .int qu_79), (r0, 15, 5, .int pn), (r0, 15, 11, .int py), (r0, 15, 21, .int pg), (r0, 15, 22, .ref zg), (r0, 15, 25, .ref zh), (r0, 15, 27, .ref zp), (r0, 15, 23, .ref zv), (r0, 15, 0, .ref zs), (r0, 15, 1, .ref zn), (r0, 15, 2, .ref za), (r0, 15, 3, .ref zb), (r0, 15, 4, .ref zc), (r0, 15, 14, .ref zy)] [(zg, 161, 46, ca 1, fg), (zh, 159, 46, ca 1, fh), (zp, 162, 368, ca 1, fp), (zv, 158, 46, ca 1, fv), (zs, 150, 120000, ca 1, C.s), (zn, 151, 120000, ca 1, C.n), (za, 152, 120000, ca 1, C.a), (zb, 153, 120000, ca 1, C.b), (zc, 154, 120000, ca 1, C.c), (zy, 165, 16, ca 1, C.y)] [] H_79 locs_79 := ((hh.call hb_791 hb_792 hb_793 hb_794 hS_79 rfl (L1 := [(r0, 15, 5, .int pn), (r0, 15, 11, .int py), (r0, 15, 21, .int pg), (r0, 15, 22, .ref zg), (r0, 15, 25, .ref zh), (r0, 15, 27, .ref zp), (r0, 15, 23, .ref zv), (r0, 15, 0, .ref zs), (r0, 15, 1, .ref zn), (r0, 15, 2, .ref za), (r0, 15, 3, .ref zb), (r0, 15, 4, .ref zc), (r0, 15, 14, .ref zy)]) [0, 2, 3, 4, 5, 6, 7, 8, 9, 10, 11, 12, 13] rfl rfl (M1 := [(zg, 161, 46, ca 1, fg), (zh, 159, 46, ca 1, fh), (zp, 162, 368, ca 1, fp), (zv, 158, 46, ca 1, fv), (zs, 150, 120000, ca 1, C.s), (zn, 151, 120000, ca 1, C.n), (za, 152, 120000, ca 1, C.a), (zb, 153, 120000, ca 1, C.b), (zc, 154, 120000, ca 1, C.c), (zy, 165, 16, ca 1, C.y)]) [0, 1, 2, 3, 4, 5, 6, 7, 8, 9] rfl rfl (I1 := []) [] rfl rfl).more hb_795)
      clear hh ht_79 hvm_79 hz_79 hk_79 hS_79 hb_791 hb_792 hb_793 hb_794 hb_795
      obtain ⟨hr_80_0, hr_80_1, hr_80_2, hr_80_3⟩ := hr_80
      refine lv_aload_n hx hb dX13_cases_36 rfl (lv_at hl 2 rfl) ?_
      refine j7_read hx hb hown hK (C := RX13) (T := TX13) (N := 50) rfl hly_15_34 hlk_221 (hh_79.at 0 rfl) dX13_cases_37 ?_
      refine lv_if_le (tgt := 44) hx hb dX13_cases_40 (by decide) (fun c_81 => ?_) (fun c_81 => ?_)
      · skip
        have c_81' : qu_79.toInt ≤ 0 := jb_le (rfl) ((by decide)) c_81
        exact (by omega : False).elim
      · skip
        have c_81' : qu_79.toInt > 0 := jb_le_n (rfl) ((by decide)) c_81
        rw [hQ]
        exact W.vret hx hb hr (fun t ht hW => ⟨⟨(pn, qu_79, pg, fg, fh, fp, C), rfl, by (try dsimp only); exact ⟨by omega, by omega, by omega, by omega, by omega, by omega, jAgK.rf _ _, hp0⟩, ⟨hh_79.rt (M1 := [(r0, 15, 5, .int pn), (r0, 15, 34, .int qu_79), (r0, 15, 21, .int pg)]) [1, 0, 3] rfl ht, by rw [ht]; exact hh_79.2.2.2.2.2.2.2.1.sub [0, 1, 2, 4, 5, 6, 7, 8, 9] rfl⟩⟩, by rw [ht]; try exact hh_79.1.1, fun q h9 hq => by rw [ht]; try exact hh_79.1.2.1 q h9 hq⟩) hh_79.1.2.2 dX13_cases_43
end
