theorem dX10_isChain_0 : decode cX10_isChain 0 = .ok (.iconst 0, 1) := by decide +kernel
theorem dX10_isChain_1 : decode cX10_isChain 1 = .ok (.istore_n 3, 1) := by decide +kernel
theorem dX10_isChain_2 : decode cX10_isChain 2 = .ok (.iload_n 3, 1) := by decide +kernel
theorem dX10_isChain_3 : decode cX10_isChain 3 = .ok (.sipush 1500, 3) := by decide +kernel
theorem dX10_isChain_6 : decode cX10_isChain 6 = .ok (.if_icmp .ge 98, 3) := by decide +kernel
theorem dX10_isChain_9 : decode cX10_isChain 9 = .ok (.iload_n 1, 1) := by decide +kernel
theorem dX10_isChain_10 : decode cX10_isChain 10 = .ok (.getstatic 122, 3) := by decide +kernel
theorem dX10_isChain_13 : decode cX10_isChain 13 = .ok (.arraylength, 1) := by decide +kernel
theorem dX10_isChain_14 : decode cX10_isChain 14 = .ok (.if_icmp .ge 90, 3) := by decide +kernel
theorem dX10_isChain_17 : decode cX10_isChain 17 = .ok (.aload_n 0, 1) := by decide +kernel
theorem dX10_isChain_18 : decode cX10_isChain 18 = .ok (.getfield 89, 3) := by decide +kernel
theorem dX10_isChain_21 : decode cX10_isChain 21 = .ok (.istore 4, 2) := by decide +kernel
theorem dX10_isChain_23 : decode cX10_isChain 23 = .ok (.iload_n 1, 1) := by decide +kernel
theorem dX10_isChain_24 : decode cX10_isChain 24 = .ok (.getstatic 122, 3) := by decide +kernel
theorem dX10_isChain_27 : decode cX10_isChain 27 = .ok (.arraylength, 1) := by decide +kernel
theorem dX10_isChain_28 : decode cX10_isChain 28 = .ok (.iconst 1, 1) := by decide +kernel
theorem dX10_isChain_29 : decode cX10_isChain 29 = .ok (.isub, 1) := by decide +kernel
theorem dX10_isChain_30 : decode cX10_isChain 30 = .ok (.if_icmp .ne 11, 3) := by decide +kernel
theorem dX10_isChain_33 : decode cX10_isChain 33 = .ok (.aload_n 0, 1) := by decide +kernel
theorem dX10_isChain_34 : decode cX10_isChain 34 = .ok (.iload_n 2, 1) := by decide +kernel
theorem dX10_isChain_35 : decode cX10_isChain 35 = .ok (.invokevirtual 125, 3) := by decide +kernel
theorem dX10_isChain_38 : decode cX10_isChain 38 = .ok (.goto 11, 3) := by decide +kernel
theorem dX10_isChain_41 : decode cX10_isChain 41 = .ok (.aload_n 0, 1) := by decide +kernel
theorem dX10_isChain_42 : decode cX10_isChain 42 = .ok (.iload_n 1, 1) := by decide +kernel
theorem dX10_isChain_43 : decode cX10_isChain 43 = .ok (.iconst 1, 1) := by decide +kernel
theorem dX10_isChain_44 : decode cX10_isChain 44 = .ok (.iadd, 1) := by decide +kernel
theorem dX10_isChain_45 : decode cX10_isChain 45 = .ok (.iload_n 2, 1) := by decide +kernel
theorem dX10_isChain_46 : decode cX10_isChain 46 = .ok (.invokevirtual 108, 3) := by decide +kernel
theorem dX10_isChain_49 : decode cX10_isChain 49 = .ok (.istore 5, 2) := by decide +kernel
theorem dX10_isChain_51 : decode cX10_isChain 51 = .ok (.iload 5, 2) := by decide +kernel
theorem dX10_isChain_53 : decode cX10_isChain 53 = .ok (.ifCond .ne 5, 3) := by decide +kernel
theorem dX10_isChain_56 : decode cX10_isChain 56 = .ok (.iconst 0, 1) := by decide +kernel
theorem dX10_isChain_57 : decode cX10_isChain 57 = .ok (.ireturn, 1) := by decide +kernel
theorem dX10_isChain_58 : decode cX10_isChain 58 = .ok (.aload_n 0, 1) := by decide +kernel
theorem dX10_isChain_59 : decode cX10_isChain 59 = .ok (.invokevirtual 115, 3) := by decide +kernel
theorem dX10_isChain_62 : decode cX10_isChain 62 = .ok (.getstatic 122, 3) := by decide +kernel
theorem dX10_isChain_65 : decode cX10_isChain 65 = .ok (.iload_n 1, 1) := by decide +kernel
theorem dX10_isChain_66 : decode cX10_isChain 66 = .ok (.iaload, 1) := by decide +kernel
theorem dX10_isChain_67 : decode cX10_isChain 67 = .ok (.if_icmp .eq 5, 3) := by decide +kernel
theorem dX10_isChain_70 : decode cX10_isChain 70 = .ok (.iconst 1, 1) := by decide +kernel
theorem dX10_isChain_71 : decode cX10_isChain 71 = .ok (.ireturn, 1) := by decide +kernel
theorem dX10_isChain_72 : decode cX10_isChain 72 = .ok (.aload_n 0, 1) := by decide +kernel
theorem dX10_isChain_73 : decode cX10_isChain 73 = .ok (.dup, 1) := by decide +kernel
theorem dX10_isChain_74 : decode cX10_isChain 74 = .ok (.getfield 83, 3) := by decide +kernel
theorem dX10_isChain_77 : decode cX10_isChain 77 = .ok (.iconst 1, 1) := by decide +kernel
theorem dX10_isChain_78 : decode cX10_isChain 78 = .ok (.iadd, 1) := by decide +kernel
theorem dX10_isChain_79 : decode cX10_isChain 79 = .ok (.putfield 83, 3) := by decide +kernel
theorem dX10_isChain_82 : decode cX10_isChain 82 = .ok (.aload_n 0, 1) := by decide +kernel
theorem dX10_isChain_83 : decode cX10_isChain 83 = .ok (.iload 4, 2) := by decide +kernel
theorem dX10_isChain_85 : decode cX10_isChain 85 = .ok (.getstatic 128, 3) := by decide +kernel
theorem dX10_isChain_88 : decode cX10_isChain 88 = .ok (.iload_n 1, 1) := by decide +kernel
theorem dX10_isChain_89 : decode cX10_isChain 89 = .ok (.iaload, 1) := by decide +kernel
theorem dX10_isChain_90 : decode cX10_isChain 90 = .ok (.invokevirtual 131, 3) := by decide +kernel
theorem dX10_isChain_93 : decode cX10_isChain 93 = .ok (.ifCond .ne 5, 3) := by decide +kernel
theorem dX10_isChain_96 : decode cX10_isChain 96 = .ok (.iconst 0, 1) := by decide +kernel
theorem dX10_isChain_97 : decode cX10_isChain 97 = .ok (.ireturn, 1) := by decide +kernel
theorem dX10_isChain_98 : decode cX10_isChain 98 = .ok (.iinc 3 1, 3) := by decide +kernel
theorem dX10_isChain_101 : decode cX10_isChain 101 = .ok (.goto (-99), 3) := by decide +kernel
theorem dX10_isChain_104 : decode cX10_isChain 104 = .ok (.iconst 0, 1) := by decide +kernel
theorem dX10_isChain_105 : decode cX10_isChain 105 = .ok (.ireturn, 1) := by decide +kernel
theorem dX10_isOne_0 : decode cX10_isOne 0 = .ok (.aload_n 0, 1) := by decide +kernel
theorem dX10_isOne_1 : decode cX10_isOne 1 = .ok (.invokevirtual 115, 3) := by decide +kernel
theorem dX10_isOne_4 : decode cX10_isOne 4 = .ok (.istore_n 2, 1) := by decide +kernel
theorem dX10_isOne_5 : decode cX10_isOne 5 = .ok (.aload_n 0, 1) := by decide +kernel
theorem dX10_isOne_6 : decode cX10_isOne 6 = .ok (.invokevirtual 119, 3) := by decide +kernel
theorem dX10_isOne_9 : decode cX10_isOne 9 = .ok (.istore_n 3, 1) := by decide +kernel
theorem dX10_isOne_10 : decode cX10_isOne 10 = .ok (.iload_n 2, 1) := by decide +kernel
theorem dX10_isOne_11 : decode cX10_isOne 11 = .ok (.bipush 126, 2) := by decide +kernel
theorem dX10_isOne_13 : decode cX10_isOne 13 = .ok (.if_icmp .ne 51, 3) := by decide +kernel
theorem dX10_isOne_16 : decode cX10_isOne 16 = .ok (.aload_n 0, 1) := by decide +kernel
theorem dX10_isOne_17 : decode cX10_isOne 17 = .ok (.dup, 1) := by decide +kernel
theorem dX10_isOne_18 : decode cX10_isOne 18 = .ok (.getfield 83, 3) := by decide +kernel
theorem dX10_isOne_21 : decode cX10_isOne 21 = .ok (.iconst 1, 1) := by decide +kernel
theorem dX10_isOne_22 : decode cX10_isOne 22 = .ok (.iadd, 1) := by decide +kernel
theorem dX10_isOne_23 : decode cX10_isOne 23 = .ok (.putfield 83, 3) := by decide +kernel
theorem dX10_isOne_26 : decode cX10_isOne 26 = .ok (.iload_n 1, 1) := by decide +kernel
theorem dX10_isOne_27 : decode cX10_isOne 27 = .ok (.bipush 12, 2) := by decide +kernel
theorem dX10_isOne_29 : decode cX10_isOne 29 = .ok (.if_icmp .ge 33, 3) := by decide +kernel
theorem dX10_isOne_32 : decode cX10_isOne 32 = .ok (.aload_n 0, 1) := by decide +kernel
theorem dX10_isOne_33 : decode cX10_isOne 33 = .ok (.iconst 1, 1) := by decide +kernel
theorem dX10_isOne_34 : decode cX10_isOne 34 = .ok (.invokevirtual 134, 3) := by decide +kernel
theorem dX10_isOne_37 : decode cX10_isOne 37 = .ok (.ifCond .eq 25, 3) := by decide +kernel
theorem dX10_isOne_40 : decode cX10_isOne 40 = .ok (.aload_n 0, 1) := by decide +kernel
theorem dX10_isOne_41 : decode cX10_isOne 41 = .ok (.iload_n 1, 1) := by decide +kernel
theorem dX10_isOne_42 : decode cX10_isOne 42 = .ok (.iconst 1, 1) := by decide +kernel
theorem dX10_isOne_43 : decode cX10_isOne 43 = .ok (.iadd, 1) := by decide +kernel
theorem dX10_isOne_44 : decode cX10_isOne 44 = .ok (.invokevirtual 125, 3) := by decide +kernel
theorem dX10_isOne_47 : decode cX10_isOne 47 = .ok (.ifCond .eq 15, 3) := by decide +kernel
theorem dX10_isOne_50 : decode cX10_isOne 50 = .ok (.aload_n 0, 1) := by decide +kernel
theorem dX10_isOne_51 : decode cX10_isOne 51 = .ok (.iconst 0, 1) := by decide +kernel
theorem dX10_isOne_52 : decode cX10_isOne 52 = .ok (.invokevirtual 134, 3) := by decide +kernel
theorem dX10_isOne_55 : decode cX10_isOne 55 = .ok (.ifCond .eq 7, 3) := by decide +kernel
theorem dX10_isOne_58 : decode cX10_isOne 58 = .ok (.iconst 1, 1) := by decide +kernel
theorem dX10_isOne_59 : decode cX10_isOne 59 = .ok (.goto 4, 3) := by decide +kernel
theorem dX10_isOne_62 : decode cX10_isOne 62 = .ok (.iconst 0, 1) := by decide +kernel
theorem dX10_isOne_63 : decode cX10_isOne 63 = .ok (.ireturn, 1) := by decide +kernel
theorem dX10_isOne_64 : decode cX10_isOne 64 = .ok (.iload_n 2, 1) := by decide +kernel
theorem dX10_isOne_65 : decode cX10_isOne 65 = .ok (.bipush 40, 2) := by decide +kernel
theorem dX10_isOne_67 : decode cX10_isOne 67 = .ok (.if_icmp .ne 45, 3) := by decide +kernel
theorem dX10_isOne_70 : decode cX10_isOne 70 = .ok (.aload_n 0, 1) := by decide +kernel
theorem dX10_isOne_71 : decode cX10_isOne 71 = .ok (.dup, 1) := by decide +kernel
theorem dX10_isOne_72 : decode cX10_isOne 72 = .ok (.getfield 83, 3) := by decide +kernel
theorem dX10_isOne_75 : decode cX10_isOne 75 = .ok (.iconst 1, 1) := by decide +kernel
theorem dX10_isOne_76 : decode cX10_isOne 76 = .ok (.iadd, 1) := by decide +kernel
theorem dX10_isOne_77 : decode cX10_isOne 77 = .ok (.putfield 83, 3) := by decide +kernel
theorem dX10_isOne_80 : decode cX10_isOne 80 = .ok (.iload_n 1, 1) := by decide +kernel
theorem dX10_isOne_81 : decode cX10_isOne 81 = .ok (.bipush 12, 2) := by decide +kernel
theorem dX10_isOne_83 : decode cX10_isOne 83 = .ok (.if_icmp .ge 27, 3) := by decide +kernel
theorem dX10_isOne_86 : decode cX10_isOne 86 = .ok (.aload_n 0, 1) := by decide +kernel
theorem dX10_isOne_87 : decode cX10_isOne 87 = .ok (.iconst 0, 1) := by decide +kernel
theorem dX10_isOne_88 : decode cX10_isOne 88 = .ok (.iload_n 1, 1) := by decide +kernel
theorem dX10_isOne_89 : decode cX10_isOne 89 = .ok (.iconst 1, 1) := by decide +kernel
theorem dX10_isOne_90 : decode cX10_isOne 90 = .ok (.iadd, 1) := by decide +kernel
theorem dX10_isOne_91 : decode cX10_isOne 91 = .ok (.invokevirtual 108, 3) := by decide +kernel
theorem dX10_isOne_94 : decode cX10_isOne 94 = .ok (.ifCond .eq 16, 3) := by decide +kernel
theorem dX10_isOne_97 : decode cX10_isOne 97 = .ok (.aload_n 0, 1) := by decide +kernel
theorem dX10_isOne_98 : decode cX10_isOne 98 = .ok (.bipush 41, 2) := by decide +kernel
theorem dX10_isOne_100 : decode cX10_isOne 100 = .ok (.invokevirtual 105, 3) := by decide +kernel
theorem dX10_isOne_103 : decode cX10_isOne 103 = .ok (.ifCond .eq 7, 3) := by decide +kernel
theorem dX10_isOne_106 : decode cX10_isOne 106 = .ok (.iconst 1, 1) := by decide +kernel
theorem dX10_isOne_107 : decode cX10_isOne 107 = .ok (.goto 4, 3) := by decide +kernel
theorem dX10_isOne_110 : decode cX10_isOne 110 = .ok (.iconst 0, 1) := by decide +kernel
theorem dX10_isOne_111 : decode cX10_isOne 111 = .ok (.ireturn, 1) := by decide +kernel
theorem dX10_isOne_112 : decode cX10_isOne 112 = .ok (.iload_n 3, 1) := by decide +kernel
theorem dX10_isOne_113 : decode cX10_isOne 113 = .ok (.ifCond .eq 8, 3) := by decide +kernel
theorem dX10_isOne_116 : decode cX10_isOne 116 = .ok (.iload_n 3, 1) := by decide +kernel
theorem dX10_isOne_117 : decode cX10_isOne 117 = .ok (.iconst 1, 1) := by decide +kernel
theorem dX10_isOne_118 : decode cX10_isOne 118 = .ok (.if_icmp .ne 94, 3) := by decide +kernel
theorem dX10_isOne_121 : decode cX10_isOne 121 = .ok (.aload_n 0, 1) := by decide +kernel
theorem dX10_isOne_122 : decode cX10_isOne 122 = .ok (.dup, 1) := by decide +kernel
theorem dX10_isOne_123 : decode cX10_isOne 123 = .ok (.getfield 83, 3) := by decide +kernel
theorem dX10_isOne_126 : decode cX10_isOne 126 = .ok (.iconst 1, 1) := by decide +kernel
theorem dX10_isOne_127 : decode cX10_isOne 127 = .ok (.iadd, 1) := by decide +kernel
theorem dX10_isOne_128 : decode cX10_isOne 128 = .ok (.putfield 83, 3) := by decide +kernel
theorem dX10_isOne_131 : decode cX10_isOne 131 = .ok (.aload_n 0, 1) := by decide +kernel
theorem dX10_isOne_132 : decode cX10_isOne 132 = .ok (.invokevirtual 119, 3) := by decide +kernel
theorem dX10_isOne_135 : decode cX10_isOne 135 = .ok (.istore 4, 2) := by decide +kernel
theorem dX10_isOne_137 : decode cX10_isOne 137 = .ok (.iload_n 3, 1) := by decide +kernel
theorem dX10_isOne_138 : decode cX10_isOne 138 = .ok (.ifCond .ne 7, 3) := by decide +kernel
theorem dX10_isOne_141 : decode cX10_isOne 141 = .ok (.iconst 5, 1) := by decide +kernel
theorem dX10_isOne_142 : decode cX10_isOne 142 = .ok (.goto 5, 3) := by decide +kernel
theorem dX10_isOne_145 : decode cX10_isOne 145 = .ok (.bipush 6, 2) := by decide +kernel
theorem dX10_isOne_147 : decode cX10_isOne 147 = .ok (.iload 4, 2) := by decide +kernel
theorem dX10_isOne_149 : decode cX10_isOne 149 = .ok (.bipush 15, 2) := by decide +kernel
theorem dX10_isOne_151 : decode cX10_isOne 151 = .ok (.ishl, 1) := by decide +kernel
theorem dX10_isOne_152 : decode cX10_isOne 152 = .ok (.ior, 1) := by decide +kernel
theorem dX10_isOne_153 : decode cX10_isOne 153 = .ok (.istore 5, 2) := by decide +kernel
theorem dX10_isOne_155 : decode cX10_isOne 155 = .ok (.aload_n 0, 1) := by decide +kernel
theorem dX10_isOne_156 : decode cX10_isOne 156 = .ok (.dup, 1) := by decide +kernel
theorem dX10_isOne_157 : decode cX10_isOne 157 = .ok (.getfield 83, 3) := by decide +kernel
theorem dX10_isOne_160 : decode cX10_isOne 160 = .ok (.iconst 1, 1) := by decide +kernel
theorem dX10_isOne_161 : decode cX10_isOne 161 = .ok (.iadd, 1) := by decide +kernel
theorem dX10_isOne_162 : decode cX10_isOne 162 = .ok (.putfield 83, 3) := by decide +kernel
theorem dX10_isOne_165 : decode cX10_isOne 165 = .ok (.iload_n 1, 1) := by decide +kernel
theorem dX10_isOne_166 : decode cX10_isOne 166 = .ok (.bipush 12, 2) := by decide +kernel
theorem dX10_isOne_168 : decode cX10_isOne 168 = .ok (.if_icmp .ge 42, 3) := by decide +kernel
theorem dX10_isOne_171 : decode cX10_isOne 171 = .ok (.iload 4, 2) := by decide +kernel
theorem dX10_isOne_173 : decode cX10_isOne 173 = .ok (.iconst 2, 1) := by decide +kernel
theorem dX10_isOne_174 : decode cX10_isOne 174 = .ok (.if_icmp .le 36, 3) := by decide +kernel
theorem dX10_isOne_177 : decode cX10_isOne 177 = .ok (.aload_n 0, 1) := by decide +kernel
theorem dX10_isOne_178 : decode cX10_isOne 178 = .ok (.bipush 44, 2) := by decide +kernel
theorem dX10_isOne_180 : decode cX10_isOne 180 = .ok (.invokevirtual 105, 3) := by decide +kernel
theorem dX10_isOne_183 : decode cX10_isOne 183 = .ok (.ifCond .eq 27, 3) := by decide +kernel
theorem dX10_isOne_186 : decode cX10_isOne 186 = .ok (.aload_n 0, 1) := by decide +kernel
theorem dX10_isOne_187 : decode cX10_isOne 187 = .ok (.iload 5, 2) := by decide +kernel
theorem dX10_isOne_189 : decode cX10_isOne 189 = .ok (.invokevirtual 134, 3) := by decide +kernel
theorem dX10_isOne_192 : decode cX10_isOne 192 = .ok (.ifCond .eq 18, 3) := by decide +kernel
theorem dX10_isOne_195 : decode cX10_isOne 195 = .ok (.aload_n 0, 1) := by decide +kernel
theorem dX10_isOne_196 : decode cX10_isOne 196 = .ok (.iconst 0, 1) := by decide +kernel
theorem dX10_isOne_197 : decode cX10_isOne 197 = .ok (.iload_n 1, 1) := by decide +kernel
theorem dX10_isOne_198 : decode cX10_isOne 198 = .ok (.iconst 1, 1) := by decide +kernel
theorem dX10_isOne_199 : decode cX10_isOne 199 = .ok (.iadd, 1) := by decide +kernel
theorem dX10_isOne_200 : decode cX10_isOne 200 = .ok (.invokevirtual 108, 3) := by decide +kernel
theorem dX10_isOne_203 : decode cX10_isOne 203 = .ok (.ifCond .eq 7, 3) := by decide +kernel
theorem dX10_isOne_206 : decode cX10_isOne 206 = .ok (.iconst 1, 1) := by decide +kernel
theorem dX10_isOne_207 : decode cX10_isOne 207 = .ok (.goto 4, 3) := by decide +kernel
theorem dX10_isOne_210 : decode cX10_isOne 210 = .ok (.iconst 0, 1) := by decide +kernel
theorem dX10_isOne_211 : decode cX10_isOne 211 = .ok (.ireturn, 1) := by decide +kernel
theorem dX10_isOne_212 : decode cX10_isOne 212 = .ok (.iload_n 3, 1) := by decide +kernel
theorem dX10_isOne_213 : decode cX10_isOne 213 = .ok (.iconst 2, 1) := by decide +kernel
theorem dX10_isOne_214 : decode cX10_isOne 214 = .ok (.if_icmp .ne 19, 3) := by decide +kernel
theorem dX10_isOne_217 : decode cX10_isOne 217 = .ok (.aload_n 0, 1) := by decide +kernel
theorem dX10_isOne_218 : decode cX10_isOne 218 = .ok (.dup, 1) := by decide +kernel
theorem dX10_isOne_219 : decode cX10_isOne 219 = .ok (.getfield 83, 3) := by decide +kernel
theorem dX10_isOne_222 : decode cX10_isOne 222 = .ok (.iconst 1, 1) := by decide +kernel
theorem dX10_isOne_223 : decode cX10_isOne 223 = .ok (.iadd, 1) := by decide +kernel
theorem dX10_isOne_224 : decode cX10_isOne 224 = .ok (.putfield 83, 3) := by decide +kernel
theorem dX10_isOne_227 : decode cX10_isOne 227 = .ok (.aload_n 0, 1) := by decide +kernel
theorem dX10_isOne_228 : decode cX10_isOne 228 = .ok (.iconst 0, 1) := by decide +kernel
theorem dX10_isOne_229 : decode cX10_isOne 229 = .ok (.invokevirtual 134, 3) := by decide +kernel
theorem dX10_isOne_232 : decode cX10_isOne 232 = .ok (.ireturn, 1) := by decide +kernel
theorem dX10_isOne_233 : decode cX10_isOne 233 = .ok (.aload_n 0, 1) := by decide +kernel
theorem dX10_isOne_234 : decode cX10_isOne 234 = .ok (.getfield 89, 3) := by decide +kernel
theorem dX10_isOne_237 : decode cX10_isOne 237 = .ok (.istore 4, 2) := by decide +kernel
theorem dX10_isOne_239 : decode cX10_isOne 239 = .ok (.aload_n 0, 1) := by decide +kernel
theorem dX10_isOne_240 : decode cX10_isOne 240 = .ok (.bipush 7, 2) := by decide +kernel
theorem dX10_isOne_242 : decode cX10_isOne 242 = .ok (.iload_n 1, 1) := by decide +kernel
theorem dX10_isOne_243 : decode cX10_isOne 243 = .ok (.invokevirtual 112, 3) := by decide +kernel
theorem dX10_isOne_246 : decode cX10_isOne 246 = .ok (.ifCond .ne 5, 3) := by decide +kernel
theorem dX10_isOne_249 : decode cX10_isOne 249 = .ok (.iconst 0, 1) := by decide +kernel
theorem dX10_isOne_250 : decode cX10_isOne 250 = .ok (.ireturn, 1) := by decide +kernel
theorem dX10_isOne_251 : decode cX10_isOne 251 = .ok (.aload_n 0, 1) := by decide +kernel
theorem dX10_isOne_252 : decode cX10_isOne 252 = .ok (.invokevirtual 115, 3) := by decide +kernel
theorem dX10_isOne_255 : decode cX10_isOne 255 = .ok (.bipush 61, 2) := by decide +kernel
theorem dX10_isOne_257 : decode cX10_isOne 257 = .ok (.if_icmp .eq 5, 3) := by decide +kernel
theorem dX10_isOne_260 : decode cX10_isOne 260 = .ok (.iconst 1, 1) := by decide +kernel
theorem dX10_isOne_261 : decode cX10_isOne 261 = .ok (.ireturn, 1) := by decide +kernel
theorem dX10_isOne_262 : decode cX10_isOne 262 = .ok (.aload_n 0, 1) := by decide +kernel
theorem dX10_isOne_263 : decode cX10_isOne 263 = .ok (.dup, 1) := by decide +kernel
theorem dX10_isOne_264 : decode cX10_isOne 264 = .ok (.getfield 83, 3) := by decide +kernel
theorem dX10_isOne_267 : decode cX10_isOne 267 = .ok (.iconst 1, 1) := by decide +kernel
theorem dX10_isOne_268 : decode cX10_isOne 268 = .ok (.iadd, 1) := by decide +kernel
theorem dX10_isOne_269 : decode cX10_isOne 269 = .ok (.putfield 83, 3) := by decide +kernel
theorem dX10_isOne_272 : decode cX10_isOne 272 = .ok (.aload_n 0, 1) := by decide +kernel
theorem dX10_isOne_273 : decode cX10_isOne 273 = .ok (.getfield 21, 3) := by decide +kernel
theorem dX10_isOne_276 : decode cX10_isOne 276 = .ok (.iload 4, 2) := by decide +kernel
theorem dX10_isOne_278 : decode cX10_isOne 278 = .ok (.dup2, 1) := by decide +kernel
theorem dX10_isOne_279 : decode cX10_isOne 279 = .ok (.iaload, 1) := by decide +kernel
theorem dX10_isOne_280 : decode cX10_isOne 280 = .ok (.iconst 1, 1) := by decide +kernel
theorem dX10_isOne_281 : decode cX10_isOne 281 = .ok (.iadd, 1) := by decide +kernel
theorem dX10_isOne_282 : decode cX10_isOne 282 = .ok (.iastore, 1) := by decide +kernel
theorem dX10_isOne_283 : decode cX10_isOne 283 = .ok (.aload_n 0, 1) := by decide +kernel
theorem dX10_isOne_284 : decode cX10_isOne 284 = .ok (.iload 4, 2) := by decide +kernel
theorem dX10_isOne_286 : decode cX10_isOne 286 = .ok (.iconst 4, 1) := by decide +kernel
theorem dX10_isOne_287 : decode cX10_isOne 287 = .ok (.invokevirtual 131, 3) := by decide +kernel
theorem dX10_isOne_290 : decode cX10_isOne 290 = .ok (.ifCond .eq 17, 3) := by decide +kernel
theorem dX10_isOne_293 : decode cX10_isOne 293 = .ok (.aload_n 0, 1) := by decide +kernel
theorem dX10_isOne_294 : decode cX10_isOne 294 = .ok (.bipush 8, 2) := by decide +kernel
theorem dX10_isOne_296 : decode cX10_isOne 296 = .ok (.iload_n 1, 1) := by decide +kernel
theorem dX10_isOne_297 : decode cX10_isOne 297 = .ok (.invokevirtual 112, 3) := by decide +kernel
theorem dX10_isOne_300 : decode cX10_isOne 300 = .ok (.ifCond .eq 7, 3) := by decide +kernel
theorem dX10_isOne_303 : decode cX10_isOne 303 = .ok (.iconst 1, 1) := by decide +kernel
theorem dX10_isOne_304 : decode cX10_isOne 304 = .ok (.goto 4, 3) := by decide +kernel
theorem dX10_isOne_307 : decode cX10_isOne 307 = .ok (.iconst 0, 1) := by decide +kernel
theorem dX10_isOne_308 : decode cX10_isOne 308 = .ok (.ireturn, 1) := by decide +kernel
theorem dX10_isTerm_0 : decode cX10_isTerm 0 = .ok (.aload_n 0, 1) := by decide +kernel
theorem dX10_isTerm_1 : decode cX10_isTerm 1 = .ok (.getfield 89, 3) := by decide +kernel
theorem dX10_isTerm_4 : decode cX10_isTerm 4 = .ok (.istore_n 3, 1) := by decide +kernel
theorem dX10_isTerm_5 : decode cX10_isTerm 5 = .ok (.aload_n 0, 1) := by decide +kernel
theorem dX10_isTerm_6 : decode cX10_isTerm 6 = .ok (.invokevirtual 119, 3) := by decide +kernel
theorem dX10_isTerm_9 : decode cX10_isTerm 9 = .ok (.istore 4, 2) := by decide +kernel
theorem dX10_isTerm_11 : decode cX10_isTerm 11 = .ok (.aload_n 0, 1) := by decide +kernel
theorem dX10_isTerm_12 : decode cX10_isTerm 12 = .ok (.dup, 1) := by decide +kernel
theorem dX10_isTerm_13 : decode cX10_isTerm 13 = .ok (.getfield 83, 3) := by decide +kernel
theorem dX10_isTerm_16 : decode cX10_isTerm 16 = .ok (.iconst 1, 1) := by decide +kernel
theorem dX10_isTerm_17 : decode cX10_isTerm 17 = .ok (.iadd, 1) := by decide +kernel
theorem dX10_isTerm_18 : decode cX10_isTerm 18 = .ok (.putfield 83, 3) := by decide +kernel
theorem dX10_isTerm_21 : decode cX10_isTerm 21 = .ok (.iload 4, 2) := by decide +kernel
theorem dX10_isTerm_23 : decode cX10_isTerm 23 = .ok (.iconst 2, 1) := by decide +kernel
theorem dX10_isTerm_24 : decode cX10_isTerm 24 = .ok (.if_icmp .le 17, 3) := by decide +kernel
theorem dX10_isTerm_27 : decode cX10_isTerm 27 = .ok (.aload_n 0, 1) := by decide +kernel
theorem dX10_isTerm_28 : decode cX10_isTerm 28 = .ok (.iload_n 1, 1) := by decide +kernel
theorem dX10_isTerm_29 : decode cX10_isTerm 29 = .ok (.iload 4, 2) := by decide +kernel
theorem dX10_isTerm_31 : decode cX10_isTerm 31 = .ok (.bipush 15, 2) := by decide +kernel
theorem dX10_isTerm_33 : decode cX10_isTerm 33 = .ok (.ishl, 1) := by decide +kernel
theorem dX10_isTerm_34 : decode cX10_isTerm 34 = .ok (.ior, 1) := by decide +kernel
theorem dX10_isTerm_35 : decode cX10_isTerm 35 = .ok (.invokevirtual 134, 3) := by decide +kernel
theorem dX10_isTerm_38 : decode cX10_isTerm 38 = .ok (.ifCond .ne 5, 3) := by decide +kernel
theorem dX10_isTerm_41 : decode cX10_isTerm 41 = .ok (.iconst 0, 1) := by decide +kernel
theorem dX10_isTerm_42 : decode cX10_isTerm 42 = .ok (.ireturn, 1) := by decide +kernel
theorem dX10_isTerm_43 : decode cX10_isTerm 43 = .ok (.aload_n 0, 1) := by decide +kernel
theorem dX10_isTerm_44 : decode cX10_isTerm 44 = .ok (.invokevirtual 115, 3) := by decide +kernel
theorem dX10_isTerm_47 : decode cX10_isTerm 47 = .ok (.bipush 40, 2) := by decide +kernel
theorem dX10_isTerm_49 : decode cX10_isTerm 49 = .ok (.if_icmp .eq 5, 3) := by decide +kernel
theorem dX10_isTerm_52 : decode cX10_isTerm 52 = .ok (.iconst 1, 1) := by decide +kernel
theorem dX10_isTerm_53 : decode cX10_isTerm 53 = .ok (.ireturn, 1) := by decide +kernel
theorem dX10_isTerm_54 : decode cX10_isTerm 54 = .ok (.iload_n 2, 1) := by decide +kernel
theorem dX10_isTerm_55 : decode cX10_isTerm 55 = .ok (.bipush 12, 2) := by decide +kernel
theorem dX10_isTerm_57 : decode cX10_isTerm 57 = .ok (.if_icmp .lt 5, 3) := by decide +kernel
theorem dX10_isTerm_60 : decode cX10_isTerm 60 = .ok (.iconst 0, 1) := by decide +kernel
theorem dX10_isTerm_61 : decode cX10_isTerm 61 = .ok (.ireturn, 1) := by decide +kernel
theorem dX10_isTerm_62 : decode cX10_isTerm 62 = .ok (.iconst 1, 1) := by decide +kernel
theorem dX10_isTerm_63 : decode cX10_isTerm 63 = .ok (.istore 5, 2) := by decide +kernel
theorem dX10_isTerm_65 : decode cX10_isTerm 65 = .ok (.iload 5, 2) := by decide +kernel
theorem dX10_isTerm_67 : decode cX10_isTerm 67 = .ok (.sipush 2047, 3) := by decide +kernel
theorem dX10_isTerm_70 : decode cX10_isTerm 70 = .ok (.if_icmp .gt 62, 3) := by decide +kernel
theorem dX10_isTerm_73 : decode cX10_isTerm 73 = .ok (.aload_n 0, 1) := by decide +kernel
theorem dX10_isTerm_74 : decode cX10_isTerm 74 = .ok (.dup, 1) := by decide +kernel
theorem dX10_isTerm_75 : decode cX10_isTerm 75 = .ok (.getfield 83, 3) := by decide +kernel
theorem dX10_isTerm_78 : decode cX10_isTerm 78 = .ok (.iconst 1, 1) := by decide +kernel
theorem dX10_isTerm_79 : decode cX10_isTerm 79 = .ok (.iadd, 1) := by decide +kernel
theorem dX10_isTerm_80 : decode cX10_isTerm 80 = .ok (.putfield 83, 3) := by decide +kernel
theorem dX10_isTerm_83 : decode cX10_isTerm 83 = .ok (.aload_n 0, 1) := by decide +kernel
theorem dX10_isTerm_84 : decode cX10_isTerm 84 = .ok (.bipush 8, 2) := by decide +kernel
theorem dX10_isTerm_86 : decode cX10_isTerm 86 = .ok (.iload_n 2, 1) := by decide +kernel
theorem dX10_isTerm_87 : decode cX10_isTerm 87 = .ok (.iconst 1, 1) := by decide +kernel
theorem dX10_isTerm_88 : decode cX10_isTerm 88 = .ok (.iadd, 1) := by decide +kernel
theorem dX10_isTerm_89 : decode cX10_isTerm 89 = .ok (.invokevirtual 112, 3) := by decide +kernel
theorem dX10_isTerm_92 : decode cX10_isTerm 92 = .ok (.ifCond .ne 5, 3) := by decide +kernel
theorem dX10_isTerm_95 : decode cX10_isTerm 95 = .ok (.iconst 0, 1) := by decide +kernel
theorem dX10_isTerm_96 : decode cX10_isTerm 96 = .ok (.ireturn, 1) := by decide +kernel
theorem dX10_isTerm_97 : decode cX10_isTerm 97 = .ok (.aload_n 0, 1) := by decide +kernel
theorem dX10_isTerm_98 : decode cX10_isTerm 98 = .ok (.invokevirtual 115, 3) := by decide +kernel
theorem dX10_isTerm_101 : decode cX10_isTerm 101 = .ok (.bipush 44, 2) := by decide +kernel
theorem dX10_isTerm_103 : decode cX10_isTerm 103 = .ok (.if_icmp .eq 23, 3) := by decide +kernel
theorem dX10_isTerm_106 : decode cX10_isTerm 106 = .ok (.aload_n 0, 1) := by decide +kernel
theorem dX10_isTerm_107 : decode cX10_isTerm 107 = .ok (.getfield 21, 3) := by decide +kernel
theorem dX10_isTerm_110 : decode cX10_isTerm 110 = .ok (.iload_n 3, 1) := by decide +kernel
theorem dX10_isTerm_111 : decode cX10_isTerm 111 = .ok (.dup2, 1) := by decide +kernel
theorem dX10_isTerm_112 : decode cX10_isTerm 112 = .ok (.iaload, 1) := by decide +kernel
theorem dX10_isTerm_113 : decode cX10_isTerm 113 = .ok (.iload 5, 2) := by decide +kernel
theorem dX10_isTerm_115 : decode cX10_isTerm 115 = .ok (.iconst 4, 1) := by decide +kernel
theorem dX10_isTerm_116 : decode cX10_isTerm 116 = .ok (.ishl, 1) := by decide +kernel
theorem dX10_isTerm_117 : decode cX10_isTerm 117 = .ok (.ior, 1) := by decide +kernel
theorem dX10_isTerm_118 : decode cX10_isTerm 118 = .ok (.iastore, 1) := by decide +kernel
theorem dX10_isTerm_119 : decode cX10_isTerm 119 = .ok (.aload_n 0, 1) := by decide +kernel
theorem dX10_isTerm_120 : decode cX10_isTerm 120 = .ok (.bipush 41, 2) := by decide +kernel
theorem dX10_isTerm_122 : decode cX10_isTerm 122 = .ok (.invokevirtual 105, 3) := by decide +kernel
theorem dX10_isTerm_125 : decode cX10_isTerm 125 = .ok (.ireturn, 1) := by decide +kernel
theorem dX10_isTerm_126 : decode cX10_isTerm 126 = .ok (.iinc 5 1, 3) := by decide +kernel
theorem dX10_isTerm_129 : decode cX10_isTerm 129 = .ok (.goto (-64), 3) := by decide +kernel
theorem dX10_isTerm_132 : decode cX10_isTerm 132 = .ok (.iconst 0, 1) := by decide +kernel
theorem dX10_isTerm_133 : decode cX10_isTerm 133 = .ok (.ireturn, 1) := by decide +kernel
def EX10_isTerm : List (Nat × Nat) := [(12, 4), (12, 10), (101, 0)]
def EX10_isOne : List (Nat × Nat) := [(12, 4), (12, 10), (101, 0)]
def EX10_isChain : List (Nat × Nat) := [(12, 4), (12, 10), (101, 0)]
def qX10_isTerm (l : Launch) (dC : Nat → ClassId) (dI : Nat → Nat → Nat) (ca : Nat → ClassId) (base : Nat) (B : jF) (ef : Nat) : Prop := ∀ (G0 : jT) (H0 : Heap) (r0 : Nat) (a1 : Int32) (a2 : Int32) (tk : Int32) (pa : Int32) (nc : Int32), Met l yX10_isTerm (jw yX10_isTerm cX10_isTerm 6 (some .boolean)) ({ frames := ef + 3, cells := 0, slots := 0, locals := 60 * ef + 120 }) (va_Pc [.ref r0, .int a1, .int a2] (fun U => U.heap = H0 ∧ jX B base G0 [] H0 ∧ jG dC dI ca base U ∧ G0 r0 = some (12, 0) ∧ jP (dC, dI) G0 H0 [(r0, 12, 3, .int tk), (r0, 12, 4, .int pa), (r0, 12, 10, .int nc)] ∧ 0 ≤ tk.toInt ∧ tk.toInt ≤ 1500 ∧ 0 ≤ pa.toInt ∧ pa.toInt ≤ 1503 ∧ 0 ≤ nc.toInt ∧ nc.toInt ≤ 3000 ∧ pa.toInt ≤ tk.toInt ∧ a2.toInt = 12 - ef ∧ ef ≤ 12)) (va_Qi (S := Int32 × Int32) (fun r u => (r = 0 ∨ r = 1) ∧ (0 ≤ u.1.toInt ∧ u.1.toInt ≤ tk.toInt + 2 ∧ nc.toInt ≤ u.2.toInt ∧ u.2.toInt ≤ 3000 ∧ (r.toInt = 0 ∨ (u.1.toInt ≤ tk.toInt ∧ nc.toInt + 1 ≤ u.2.toInt)))) (fun u t => jRt (dC, dI) B base G0 EX10_isTerm H0 [(r0, 12, 4, .int u.1), (r0, 12, 10, .int u.2)] t.heap) (jA base)) 0 0 (jA base)
def qX10_isOne (l : Launch) (dC : Nat → ClassId) (dI : Nat → Nat → Nat) (ca : Nat → ClassId) (base : Nat) (B : jF) (ef : Nat) : Prop := ∀ (G0 : jT) (H0 : Heap) (r0 : Nat) (a1 : Int32) (tk : Int32) (pa : Int32) (nc : Int32), Met l yX10_isOne (jw yX10_isOne cX10_isOne 6 (some .boolean)) ({ frames := 5 * ef + 5, cells := 0, slots := 0, locals := 160 * ef + 200 }) (va_Pc [.ref r0, .int a1] (fun U => U.heap = H0 ∧ jX B base G0 [] H0 ∧ jG dC dI ca base U ∧ G0 r0 = some (12, 0) ∧ jP (dC, dI) G0 H0 [(r0, 12, 3, .int tk), (r0, 12, 4, .int pa), (r0, 12, 10, .int nc)] ∧ 0 ≤ tk.toInt ∧ tk.toInt ≤ 1500 ∧ 0 ≤ pa.toInt ∧ pa.toInt ≤ 1503 ∧ 0 ≤ nc.toInt ∧ nc.toInt ≤ 3000 ∧ pa.toInt ≤ tk.toInt ∧ a1.toInt = 12 - ef ∧ ef ≤ 12)) (va_Qi (S := Int32 × Int32) (fun r u => (r = 0 ∨ r = 1) ∧ (0 ≤ u.1.toInt ∧ u.1.toInt ≤ tk.toInt + 2 ∧ nc.toInt ≤ u.2.toInt ∧ u.2.toInt ≤ 3000 ∧ (r.toInt = 0 ∨ (u.1.toInt ≤ tk.toInt ∧ nc.toInt + 1 ≤ u.2.toInt)))) (fun u t => jRt (dC, dI) B base G0 EX10_isOne H0 [(r0, 12, 4, .int u.1), (r0, 12, 10, .int u.2)] t.heap) (jA base)) 0 0 (jA base)
def qX10_isChain (l : Launch) (dC : Nat → ClassId) (dI : Nat → Nat → Nat) (ca : Nat → ClassId) (base : Nat) (B : jF) (ef : Nat) (jf : Nat) : Prop := ∀ (G0 : jT) (H0 : Heap) (r0 : Nat) (a1 : Int32) (a2 : Int32) (tk : Int32) (pa : Int32) (nc : Int32), Met l yX10_isChain (jw yX10_isChain cX10_isChain 6 (some .boolean)) ({ frames := 5 * ef + 6 + jf, cells := 0, slots := 0, locals := 160 * ef + 230 + 30 * jf }) (va_Pc [.ref r0, .int a1, .int a2] (fun U => U.heap = H0 ∧ jX B base G0 [] H0 ∧ jG dC dI ca base U ∧ G0 r0 = some (12, 0) ∧ jP (dC, dI) G0 H0 [(r0, 12, 3, .int tk), (r0, 12, 4, .int pa), (r0, 12, 10, .int nc)] ∧ 0 ≤ tk.toInt ∧ tk.toInt ≤ 1500 ∧ 0 ≤ pa.toInt ∧ pa.toInt ≤ 1503 ∧ 0 ≤ nc.toInt ∧ nc.toInt ≤ 3000 ∧ pa.toInt ≤ tk.toInt ∧ a2.toInt = 12 - ef ∧ ef ≤ 12 ∧ a1.toInt = 2 - jf ∧ jf ≤ 2)) (va_Qi (S := Int32 × Int32) (fun r u => (r = 0 ∨ r = 1) ∧ (0 ≤ u.1.toInt ∧ u.1.toInt ≤ tk.toInt + 2 ∧ nc.toInt ≤ u.2.toInt ∧ u.2.toInt ≤ 3000 ∧ (r.toInt = 0 ∨ (u.1.toInt ≤ tk.toInt ∧ nc.toInt + 1 ≤ u.2.toInt)))) (fun u t => jRt (dC, dI) B base G0 EX10_isChain H0 [(r0, 12, 4, .int u.1), (r0, 12, 10, .int u.2)] t.heap) (jA base)) 0 0 (jA base)
set_option maxHeartbeats 4000000 in
set_option maxRecDepth 20000 in
theorem uX10_isTerm (l : Launch) (dC : Nat → ClassId) (dI : Nat → Nat → Nat) (ca : Nat → ClassId) (base : Nat) (B : jF) (hB : jBok B) (hAp : jAp (dC, dI)) (hB12 : ∀ n G a H, B 12 n G a H ↔ jOb (dC, dI) 12 11 (F12 n G) a H) (hB101 : ∀ n G a H, B 101 n G a H ↔ jAr (dC, dI) (ca 1) (fun j z => True) n a H) (ef : Nat) (ih : ∀ e1, e1 < ef → qX10_isTerm l dC dI ca base B e1) (G0 : jT) (H0 : Heap) (r0 : Nat) (a1 : Int32) (a2 : Int32) (tk : Int32) (pa : Int32) (nc : Int32) : Met l yX10_isTerm (jw yX10_isTerm cX10_isTerm 6 (some .boolean)) ({ frames := ef + 3, cells := 0, slots := 0, locals := 60 * ef + 120 }) (va_Pc [.ref r0, .int a1, .int a2] (fun U => U.heap = H0 ∧ jX B base G0 [] H0 ∧ jG dC dI ca base U ∧ G0 r0 = some (12, 0) ∧ jP (dC, dI) G0 H0 [(r0, 12, 3, .int tk), (r0, 12, 4, .int pa), (r0, 12, 10, .int nc)] ∧ 0 ≤ tk.toInt ∧ tk.toInt ≤ 1500 ∧ 0 ≤ pa.toInt ∧ pa.toInt ≤ 1503 ∧ 0 ≤ nc.toInt ∧ nc.toInt ≤ 3000 ∧ pa.toInt ≤ tk.toInt ∧ a2.toInt = 12 - ef ∧ ef ≤ 12)) (va_Qi (S := Int32 × Int32) (fun r u => (r = 0 ∨ r = 1) ∧ (0 ≤ u.1.toInt ∧ u.1.toInt ≤ tk.toInt + 2 ∧ nc.toInt ≤ u.2.toInt ∧ u.2.toInt ≤ 3000 ∧ (r.toInt = 0 ∨ (u.1.toInt ≤ tk.toInt ∧ nc.toInt + 1 ≤ u.2.toInt)))) (fun u t => jRt (dC, dI) B base G0 EX10_isTerm H0 [(r0, 12, 4, .int u.1), (r0, 12, 10, .int u.2)] t.heap) (jA base)) 0 0 (jA base) := by
  refine Met.ofW (cc := cX10_isTerm) (maxL := 6) (ret := (some .boolean)) (by decide) rfl ?_
  intro p e s m args below meth c s₁ Bd hml hv
  obtain ⟨rfl, hH0, hX, hG, hg_r0, hP0, hp0, hp1, hp2, hp3, hp4, hp5, hp6, hp7, hp8⟩ := hv
  have hK := hG.1
  have hx := Bd.exec
  have hb := Bd.bytes
  have hr := Bd.returns
  have hts := atoms_spec (ws := (jw yX10_isTerm cX10_isTerm 6 (some .boolean))) Bd.pre
  have htw : ∀ w ∈ jWl, w.before _ s = true := fun w h => hts w (List.mem_cons_of_mem _ h)
  have hown : s.vm.findClass RX10 = some m.cls := findClass_of_methodNamed Bd.named
  have hlocks := Bd.notSynchronized
  obtain ⟨Q, hQ⟩ : ∃ Q, Q = MQ below (va_Qi (S := Int32 × Int32) (fun r u => (r = 0 ∨ r = 1) ∧ (0 ≤ u.1.toInt ∧ u.1.toInt ≤ tk.toInt + 2 ∧ nc.toInt ≤ u.2.toInt ∧ u.2.toInt ≤ 3000 ∧ (r.toInt = 0 ∨ (u.1.toInt ≤ tk.toInt ∧ nc.toInt + 1 ≤ u.2.toInt)))) (fun u t => jRt (dC, dI) B base G0 EX10_isTerm H0 [(r0, 12, 4, .int u.1), (r0, 12, 10, .int u.2)] t.heap) (jA base)) ([.ref r0, .int a1, .int a2] : List Value).toArray s 0 0 (jA base) := ⟨_, rfl⟩
  rw [← hQ]
  have hl := lv_entry ([.ref r0, .int a1, .int a2]) (n := 6) (Nat.le_of_ble_eq_true rfl)
  rw [lg_entry_eq]
  generalize (lg_sl ([.ref r0, .int a1, .int a2]) ++ List.replicate (6 - (lg_sl ([.ref r0, .int a1, .int a2])).length) Slot.unset).toArray = ls at hl ⊢
  have hl : lv_has ls 6 [(0, .ref r0), (1, .int a1), (2, .int a2)] := hl
  generalize hR : (headSpec (jw yX10_isTerm cX10_isTerm 6 (some .boolean)) ({ frames := ef + 3, cells := 0, slots := 0, locals := 60 * ef + 120 })).room = R
  subst hH0
  have hh : jSt (dC, dI) B base G0 G0 EX10_isTerm s.heap 0 0 [(r0, 12, 3, .int tk), (r0, 12, 4, .int pa), (r0, 12, 10, .int nc)] [] [] s.heap [] := jSt.start hX hP0 jMc.nil jIs.nil
  clear hX hP0
  have hk0 : (0 : Int32).toInt = 0 := by decide
  have hk1 : (1 : Int32).toInt = 1 := by decide
  have hk2 : (2 : Int32).toInt = 2 := by decide
  have hk4 : (4 : Int32).toInt = 4 := by decide
  have hk8 : (8 : Int32).toInt = 8 := by decide
  have hk12 : (12 : Int32).toInt = 12 := by decide
  have hk15 : (15 : Int32).toInt = 15 := by decide
  have hk40 : (40 : Int32).toInt = 40 := by decide
  have hk41 : (41 : Int32).toInt = 41 := by decide
  have hk44 : (44 : Int32).toInt = 44 := by decide
  have hk2047 : (2047 : Int32).toInt = 2047 := by decide
  have hly_12_4 := htw (u_lay RX10 TX10 4) (jWc_wsX100 _ (u_in_lay (by decide)))
  have hly_12_9 := htw (u_lay RX10 TX10 9) (jWc_wsX100 _ (u_in_lay (by decide)))
  have hly_12_10 := htw (u_lay RX10 TX10 10) (jWc_wsX100 _ (u_in_lay (by decide)))
  have hlk_89 := (htw (.fieldLink RX10 89 "ProofServer$Syntax" "nodeCount" "I") (jWr_79 _ (List.mem_of_getElem? (i := 7) rfl)))
  have hlk_83 := (htw (.fieldLink RX10 83 "ProofServer$Syntax" "at" "I") (jWr_79 _ (List.mem_of_getElem? (i := 5) rfl)))
  have hlk_21 := (htw (.fieldLink RX10 21 "ProofServer$Syntax" "nodes" "[I") (jWr_8 _ (List.mem_of_getElem? (i := 11) rfl)))
  have hrg_a1 := jb_rng a1
  have hrg_a2 := jb_rng a2
  refine lv_aload_n hx hb dX10_isTerm_0 rfl (lv_at hl 0 rfl) ?_
  refine j7_read hx hb hown hK (C := RX10) (T := TX10) (N := 11) rfl hly_12_10 hlk_89 (hh.at 2 rfl) dX10_isTerm_1 ?_
  refine lv_istore_n (lv' := [(3, .int nc), (0, .ref r0), (1, .int a1), (2, .int a2)]) hx hb dX10_isTerm_4 rfl hl (by decide) rfl (fun ls hl => ?_)
  refine lv_aload_n hx hb dX10_isTerm_5 rfl (lv_at hl 1 rfl) ?_
  refine va_calli (A0 := jA base) (H0 := s.heap) (va_runV (As := []) (rest := []) ⟨hx, hb, hml, hown, hts⟩ (uX10_peekName l dC dI ca base B hB hAp hB12 hB101 G0 s.heap r0 tk pa) (cwV 0 hts (jgV (jWr_79 _ (List.mem_of_getElem? (i := 14) rfl)) (jWr_79 _ (List.mem_of_getElem? (i := 15) rfl)) (jWr_79 _ (List.mem_of_getElem? (i := 16) rfl)) (jWr_4 _ (List.mem_of_getElem? (i := 14) rfl)) (jWr_79 _ (List.mem_of_getElem? (i := 17) rfl))) rfl rfl rfl (by decide +kernel) ⟨by rw [← hR]; show (1) + 1 ≤ ef + 3; omega, by rw [← hR]; show 8 + (1 + 11) + (20) ≤ 60 * ef + 120; omega⟩) ⟨fun a U g mk q => by obtain ⟨q0, q1, q2, qK, q10, q11, q12⟩ := q; exact ⟨q0, q1, q2, jG.calling g mk a qK, q10, q11, q12⟩, hh.recv (C := RX10) (T := TX10) (N := 11) hB12 rfl (by decide) hg_r0 hK, fun U hU hW => ⟨rfl, hU, hh.2.1, hG.step hW hU hh.1, hg_r0, (hh.2.2.1.sub (L1 := [(r0, 12, 3, .int tk), (r0, 12, 4, .int pa)]) [0, 1] rfl), by first | omega | (refine ⟨?_, ?_, ?_, ?_⟩ <;> (first | omega | rfl | assumption | decide | exact Or.inl rfl | exact Or.inr rfl | (simp only; omega)))⟩⟩ rfl rfl hl.1 rfl (lv_room (Nat.le_of_ble_eq_true rfl)) dX10_isTerm_6 ⟨Nat.zero_le _, Nat.zero_le _⟩) hh.1 (fun q _ h => h) (fun q h => h) (fun r_2 u_1 t_1 H_1 locs_1 ht_1 hvm_1 hr_2 hb_1 hz_1 hk_1 hS_1 => ?_)
  rw [ht_1] at hb_1
  obtain ⟨hb_11, hb_12, hb_13, hb_14, hb_15⟩ := hb_1
  have hh_1 : jSt (dC, dI) B base G0 G0 EX10_isTerm s.heap 0 0 [(r0, 12, 3, .int tk), (r0, 12, 4, .int pa), (r0, 12, 10, .int nc)] [] [] H_1 locs_1 := ((hh.call hb_11 hb_12 hb_13 hb_14 hS_1 rfl (L1 := [(r0, 12, 3, .int tk), (r0, 12, 4, .int pa), (r0, 12, 10, .int nc)]) [0, 1, 2] rfl rfl (M1 := []) [] rfl rfl (I1 := []) [] rfl rfl).more hb_15)
  clear hh ht_1 hvm_1 hz_1 hk_1 hS_1 hb_11 hb_12 hb_13 hb_14 hb_15
  refine lv_istore (lv' := [(4, .int r_2), (3, .int nc), (0, .ref r0), (1, .int a1), (2, .int a2)]) hx hb dX10_isTerm_9 hl (by decide) rfl (fun ls hl => ?_)
  refine lv_aload_n hx hb dX10_isTerm_11 rfl (lv_at hl 2 rfl) ?_
  refine lv_dup hx hb dX10_isTerm_12 rfl ?_
  refine j7_read hx hb hown hK (C := RX10) (T := TX10) (N := 11) rfl hly_12_4 hlk_83 (hh_1.at 1 rfl) dX10_isTerm_13 ?_
  refine lv_iconst (v := 1) hx hb dX10_isTerm_16 (by decide) ?_
  refine lv_iadd hx hb dX10_isTerm_17 ?_
  refine lv_topi (fun z_3 ez_3 => ?_)
  have hz_3 : z_3.toInt = pa.toInt + 1 := by rw [ez_3]; exact jb_iadd2 (rfl) ((by decide)) (by omega)
  refine j7_put hx hb hown hK hh_1 hB hAp hB12 (C := RX10) (T := TX10) (N := 11) rfl (by decide) hg_r0 (i := 4) (by decide) hly_12_4 rfl hlk_83 rfl (ty := .int) (v := .int z_3) (by decide +kernel) rfl rfl (⟨_, rfl, by omega, by omega⟩) rfl (L1 := [(r0, 12, 3, .int tk), (r0, 12, 10, .int nc)]) [0, 2] rfl rfl rfl dX10_isTerm_18 (fun H_4 locs_4 hh_4 => ?_)
  clear hh_1
  refine lv_iload hx hb dX10_isTerm_21 (lv_at hl 0 rfl) ?_
  refine lv_iconst (v := 2) hx hb dX10_isTerm_23 (by decide) ?_
  refine lv_icmp_le (tgt := 41) hx hb dX10_isTerm_24 (by decide) (fun c_5 => ?_) (fun c_5 => ?_)
  · skip
    have c_5' : r_2.toInt ≤ 2 := jb_le (rfl) ((by decide)) c_5
    first | (have hr_2q := hr_2.resolve_left (by omega); clear hr_2) | (have hr_2q := hr_2.resolve_right (by omega); clear hr_2) | skip
    refine lv_iconst (v := 0) hx hb dX10_isTerm_41 (by decide) ?_
    rw [hQ]
    exact W.zret (v := 0) hx hb hr (jb_nz (Or.inl rfl)) (fun t ht hW => ⟨⟨0, (z_3, nc), rfl, ⟨(Or.inl rfl), by first | omega | (refine ⟨?_, ?_, ?_, ?_, ?_⟩ <;> (first | omega | rfl | assumption | decide | exact Or.inl rfl | exact Or.inr rfl | (simp only; omega)))⟩, hh_4.rt (M1 := [(r0, 12, 4, .int z_3), (r0, 12, 10, .int nc)]) [0, 2] rfl ht⟩, by rw [ht]; try exact hh_4.1.1, fun q h9 hq => by rw [ht]; try exact hh_4.1.2.1 q h9 hq⟩) hh_4.1.2.2 dX10_isTerm_42
  · skip
    have c_5' : r_2.toInt > 2 := jb_le_n (rfl) ((by decide)) c_5
    first | (have hr_2q := hr_2.resolve_left (by omega); clear hr_2) | (have hr_2q := hr_2.resolve_right (by omega); clear hr_2) | skip
    refine lv_aload_n hx hb dX10_isTerm_27 rfl (lv_at hl 2 rfl) ?_
    refine lv_iload_n hx hb dX10_isTerm_28 rfl (lv_at hl 3 rfl) ?_
    refine lv_iload hx hb dX10_isTerm_29 (lv_at hl 0 rfl) ?_
    refine lv_bipush (v := 15) hx hb dX10_isTerm_31 (by decide) ?_
    refine lv_ishl hx hb dX10_isTerm_33 ?_
    refine lv_topi (fun z_6 ez_6 => ?_)
    refine lv_ior hx hb dX10_isTerm_34 ?_
    refine lv_topi (fun z_7 ez_7 => ?_)
    refine va_calli (A0 := jA base) (H0 := s.heap) (va_runV (As := [.int z_7]) (rest := []) ⟨hx, hb, hml, hown, hts⟩ (uX10_addNode l dC dI ca base B hB hAp hB12 hB101 G0 H_4 r0 z_7 nc) (cwV 1 hts (jgV (jWr_80 _ (List.mem_of_getElem? (i := 20) rfl)) (jWr_80 _ (List.mem_of_getElem? (i := 21) rfl)) (jWr_80 _ (List.mem_of_getElem? (i := 22) rfl)) (jWr_4 _ (List.mem_of_getElem? (i := 14) rfl)) (jWr_80 _ (List.mem_of_getElem? (i := 23) rfl))) rfl rfl rfl (by decide +kernel) ⟨by rw [← hR]; show (0) + 1 ≤ ef + 3; omega, by rw [← hR]; show 8 + (2 + 11) + (0) ≤ 60 * ef + 120; omega⟩) ⟨fun a U g mk q => by obtain ⟨q0, q1, q2, qK, q10, q11, q12⟩ := q; exact ⟨q0, q1, q2, jG.calling g mk a qK, q10, q11, q12⟩, hh_4.recv (C := RX10) (T := TX10) (N := 11) hB12 rfl (by decide) hg_r0 hK, fun U hU hW => ⟨rfl, hU, hh_4.2.1, hG.step hW hU hh_4.1, hg_r0, (hh_4.2.2.1.sub (L1 := [(r0, 12, 10, .int nc)]) [2] rfl), by first | omega | (refine ⟨?_, ?_⟩ <;> (first | omega | rfl | assumption | decide | exact Or.inl rfl | exact Or.inr rfl | (simp only; omega)))⟩⟩ rfl rfl hl.1 rfl (lv_room (Nat.le_of_ble_eq_true rfl)) dX10_isTerm_35 ⟨Nat.zero_le _, Nat.zero_le _⟩) hh_4.1 (fun q _ h => h) (fun q h => h) (fun r_9 u_8 t_8 H_8 locs_8 ht_8 hvm_8 hr_9 hb_8 hz_8 hk_8 hS_8 => ?_)
    obtain ⟨qc_8, rfl⟩ : ∃ z, z = u_8 := ⟨_, rfl⟩
    rw [ht_8] at hb_8
    obtain ⟨hb_81, hb_82, hb_83, hb_84, hb_85⟩ := hb_8
    have hh_8 : jSt (dC, dI) B base G0 G0 EX10_isTerm s.heap 0 0 [(r0, 12, 10, .int qc_8), (r0, 12, 4, .int z_3), (r0, 12, 3, .int tk)] [] [] H_8 locs_8 := ((hh_4.call hb_81 hb_82 hb_83 hb_84 hS_8 rfl (L1 := [(r0, 12, 4, .int z_3), (r0, 12, 3, .int tk)]) [0, 1] rfl rfl (M1 := []) [] rfl rfl (I1 := []) [] rfl rfl).more hb_85)
    clear hh_4 ht_8 hvm_8 hz_8 hk_8 hS_8 hb_81 hb_82 hb_83 hb_84 hb_85
    obtain ⟨hr_9b, hr_9p⟩ := hr_9
    obtain ⟨hr_9p_0, hr_9p_1⟩ := hr_9p
    have hr_9' := jb_01 hr_9b
    refine lv_if_ne (tgt := 43) hx hb dX10_isTerm_38 (by decide) (fun c_10 => ?_) (fun c_10 => ?_)
    · skip
      have c_10' : r_9.toInt ≠ 0 := jb_ne (rfl) ((by decide)) c_10
      first | (have hr_9p_0q := hr_9p_0.resolve_left (by omega); clear hr_9p_0) | (have hr_9p_0q := hr_9p_0.resolve_right (by omega); clear hr_9p_0) | skip
      refine lv_aload_n hx hb dX10_isTerm_43 rfl (lv_at hl 2 rfl) ?_
      refine va_calli (A0 := jA base) (H0 := s.heap) (va_runV (As := []) (rest := []) ⟨hx, hb, hml, hown, hts⟩ (uX10_peek l dC dI ca base B hB hAp hB12 hB101 G0 H_8 r0 tk z_3) (cwV 0 hts (jgV (jWr_79 _ (List.mem_of_getElem? (i := 18) rfl)) (jWr_79 _ (List.mem_of_getElem? (i := 19) rfl)) (jWr_79 _ (List.mem_of_getElem? (i := 20) rfl)) (jWr_4 _ (List.mem_of_getElem? (i := 14) rfl)) (jWr_79 _ (List.mem_of_getElem? (i := 21) rfl))) rfl rfl rfl (by decide +kernel) ⟨by rw [← hR]; show (0) + 1 ≤ ef + 3; omega, by rw [← hR]; show 8 + (1 + 11) + (0) ≤ 60 * ef + 120; omega⟩) ⟨fun a U g mk q => by obtain ⟨q0, q1, q2, qK, q10, q11, q12⟩ := q; exact ⟨q0, q1, q2, jG.calling g mk a qK, q10, q11, q12⟩, hh_8.recv (C := RX10) (T := TX10) (N := 11) hB12 rfl (by decide) hg_r0 hK, fun U hU hW => ⟨rfl, hU, hh_8.2.1, hG.step hW hU hh_8.1, hg_r0, (hh_8.2.2.1.sub (L1 := [(r0, 12, 3, .int tk), (r0, 12, 4, .int z_3)]) [2, 1] rfl), by first | omega | (refine ⟨?_, ?_, ?_, ?_⟩ <;> (first | omega | rfl | assumption | decide | exact Or.inl rfl | exact Or.inr rfl | (simp only; omega)))⟩⟩ rfl rfl hl.1 rfl (lv_room (Nat.le_of_ble_eq_true rfl)) dX10_isTerm_44 ⟨Nat.zero_le _, Nat.zero_le _⟩) hh_8.1 (fun q _ h => h) (fun q h => h) (fun r_12 u_11 t_11 H_11 locs_11 ht_11 hvm_11 hr_12 hb_11 hz_11 hk_11 hS_11 => ?_)
      rw [ht_11] at hb_11
      obtain ⟨hb_111, hb_112, hb_113, hb_114, hb_115⟩ := hb_11
      have hh_11 : jSt (dC, dI) B base G0 G0 EX10_isTerm s.heap 0 0 [(r0, 12, 10, .int qc_8), (r0, 12, 4, .int z_3), (r0, 12, 3, .int tk)] [] [] H_11 locs_11 := ((hh_8.call hb_111 hb_112 hb_113 hb_114 hS_11 rfl (L1 := [(r0, 12, 10, .int qc_8), (r0, 12, 4, .int z_3), (r0, 12, 3, .int tk)]) [0, 1, 2] rfl rfl (M1 := []) [] rfl rfl (I1 := []) [] rfl rfl).more hb_115)
      clear hh_8 ht_11 hvm_11 hz_11 hk_11 hS_11 hb_111 hb_112 hb_113 hb_114 hb_115
      refine lv_bipush (v := 40) hx hb dX10_isTerm_47 (by decide) ?_
      refine lv_icmp_eq (tgt := 54) hx hb dX10_isTerm_49 (by decide) (fun c_13 => ?_) (fun c_13 => ?_)
      · skip
        have c_13' : r_12.toInt = 40 := jb_eq (rfl) ((by decide)) c_13
        first | (have hr_12q := hr_12.resolve_left (by omega); clear hr_12) | (have hr_12q := hr_12.resolve_right (by omega); clear hr_12) | try clear hr_12
        refine lv_iload_n hx hb dX10_isTerm_54 rfl (lv_at hl 4 rfl) ?_
        refine lv_bipush (v := 12) hx hb dX10_isTerm_55 (by decide) ?_
        refine lv_icmp_lt (tgt := 62) hx hb dX10_isTerm_57 (by decide) (fun c_14 => ?_) (fun c_14 => ?_)
        · skip
          have c_14' : a2.toInt < 12 := jb_lt (rfl) ((by decide)) c_14
          refine lv_iconst (v := 1) hx hb dX10_isTerm_62 (by decide) ?_
          refine lv_istore (lv' := [(5, .int 1), (4, .int r_2), (3, .int nc), (0, .ref r0), (1, .int a1), (2, .int a2)]) hx hb dX10_isTerm_63 hl (by decide) rfl (fun ls hl => ?_)
          have L65 : ∀ (N : Nat) (v5_15 : Int32) (wa_15 : Int32) (wc_15 : Int32) (H_15 : Heap) (locs_15 : List Loc), jSt (dC, dI) B base G0 G0 EX10_isTerm s.heap 0 0 [(r0, 12, 4, .int wa_15), (r0, 12, 10, .int wc_15), (r0, 12, 3, .int tk)] [] [] H_15 locs_15 → (1 ≤ v5_15.toInt ∧ v5_15.toInt ≤ 2048 ∧ 0 ≤ wa_15.toInt ∧ wa_15.toInt < tk.toInt ∧ nc.toInt + 1 ≤ wc_15.toInt ∧ wc_15.toInt ≤ 3000) → (2048 - v5_15.toInt : Int) < N → ∀ ls : Array Slot, lv_has ls 6 [(0, .ref r0), (1, .int a1), (2, .int a2), (3, .int nc), (4, .int r_2), (5, .int v5_15)] → W p l e R s m ([.ref r0, .int a1, .int a2] : List Value).toArray below meth c H_15 locs_15 0 0 Q (F0 m 65 ls []) := by
            intro N
            induction N with
            | zero => intro v5_15 wa_15 wc_15 H_15 locs_15 hh_15  hi_15 hm; exact absurd hm (by omega)
            | succ N L65 =>
              intro v5_15 wa_15 wc_15 H_15 locs_15 hh_15  hi_15 hm_15 ls hl
              obtain ⟨hi_15_0, hi_15_1, hi_15_2, hi_15_3, hi_15_4, hi_15_5⟩ := hi_15
              try clear hr_2; try clear hr_9p_0
              refine lv_iload hx hb dX10_isTerm_65 (lv_at hl 5 rfl) ?_
              refine lv_sipush (v := 2047) hx hb dX10_isTerm_67 (by decide) ?_
              refine lv_icmp_gt (tgt := 132) hx hb dX10_isTerm_70 (by decide) (fun c_16 => ?_) (fun c_16 => ?_)
              · skip
                have c_16' : v5_15.toInt > 2047 := jb_gt (rfl) ((by decide)) c_16
                refine lv_iconst (v := 0) hx hb dX10_isTerm_132 (by decide) ?_
                rw [hQ]
                exact W.zret (v := 0) hx hb hr (jb_nz (Or.inl rfl)) (fun t ht hW => ⟨⟨0, (wa_15, wc_15), rfl, ⟨(Or.inl rfl), by first | omega | (refine ⟨?_, ?_, ?_, ?_, ?_⟩ <;> (first | omega | rfl | assumption | decide | exact Or.inl rfl | exact Or.inr rfl | (simp only; omega)))⟩, hh_15.rt (M1 := [(r0, 12, 4, .int wa_15), (r0, 12, 10, .int wc_15)]) [0, 1] rfl ht⟩, by rw [ht]; try exact hh_15.1.1, fun q h9 hq => by rw [ht]; try exact hh_15.1.2.1 q h9 hq⟩) hh_15.1.2.2 dX10_isTerm_133
              · skip
                have c_16' : v5_15.toInt ≤ 2047 := jb_gt_n (rfl) ((by decide)) c_16
                refine lv_aload_n hx hb dX10_isTerm_73 rfl (lv_at hl 0 rfl) ?_
                refine lv_dup hx hb dX10_isTerm_74 rfl ?_
                refine j7_read hx hb hown hK (C := RX10) (T := TX10) (N := 11) rfl hly_12_4 hlk_83 (hh_15.at 0 rfl) dX10_isTerm_75 ?_
                refine lv_iconst (v := 1) hx hb dX10_isTerm_78 (by decide) ?_
                refine lv_iadd hx hb dX10_isTerm_79 ?_
                refine lv_topi (fun z_17 ez_17 => ?_)
                have hz_17 : z_17.toInt = wa_15.toInt + 1 := by rw [ez_17]; exact jb_iadd2 (rfl) ((by decide)) (by omega)
                refine j7_put hx hb hown hK hh_15 hB hAp hB12 (C := RX10) (T := TX10) (N := 11) rfl (by decide) hg_r0 (i := 4) (by decide) hly_12_4 rfl hlk_83 rfl (ty := .int) (v := .int z_17) (by decide +kernel) rfl rfl (⟨_, rfl, by omega, by omega⟩) rfl (L1 := [(r0, 12, 10, .int wc_15), (r0, 12, 3, .int tk)]) [1, 2] rfl rfl rfl dX10_isTerm_80 (fun H_18 locs_18 hh_18 => ?_)
                clear hh_15
                refine lv_aload_n hx hb dX10_isTerm_83 rfl (lv_at hl 0 rfl) ?_
                refine lv_bipush (v := 8) hx hb dX10_isTerm_84 (by decide) ?_
                refine lv_iload_n hx hb dX10_isTerm_86 rfl (lv_at hl 2 rfl) ?_
                refine lv_iconst (v := 1) hx hb dX10_isTerm_87 (by decide) ?_
                refine lv_iadd hx hb dX10_isTerm_88 ?_
                refine lv_topi (fun z_19 ez_19 => ?_)
                have hz_19 : z_19.toInt = a2.toInt + 1 := by rw [ez_19]; exact jb_iadd2 (rfl) ((by decide)) (by omega)
                refine va_calli (A0 := jA base) (H0 := s.heap) (va_runV (As := [.int 8, .int z_19]) (rest := []) ⟨hx, hb, hml, hown, hts⟩ (ih (ef - 1) (by omega) G0 H_18 r0 8 z_19 tk z_17 wc_15) (cwV 2 hts (jgV (jWr_81 _ (List.mem_of_getElem? (i := 0) rfl)) (jWr_81 _ (List.mem_of_getElem? (i := 1) rfl)) (jWr_81 _ (List.mem_of_getElem? (i := 2) rfl)) (jWr_4 _ (List.mem_of_getElem? (i := 14) rfl)) (jWr_81 _ (List.mem_of_getElem? (i := 3) rfl))) rfl rfl rfl (by decide +kernel) ⟨by rw [← hR]; show ((ef - 1) + 3) + 1 ≤ ef + 3; omega, by rw [← hR]; show 8 + (6 + 11) + (60 * (ef - 1) + 120) ≤ 60 * ef + 120; omega⟩) ⟨fun a U g mk q => by obtain ⟨q0, q1, q2, qK, q10, q11, q12⟩ := q; exact ⟨q0, q1, q2, jG.calling g mk a qK, q10, q11, q12⟩, hh_18.recv (C := RX10) (T := TX10) (N := 11) hB12 rfl (by decide) hg_r0 hK, fun U hU hW => ⟨rfl, hU, hh_18.2.1, hG.step hW hU hh_18.1, hg_r0, (hh_18.2.2.1.sub (L1 := [(r0, 12, 3, .int tk), (r0, 12, 4, .int z_17), (r0, 12, 10, .int wc_15)]) [2, 0, 1] rfl), by first | omega | (refine ⟨?_, ?_, ?_, ?_, ?_, ?_, ?_, ?_, ?_⟩ <;> (first | omega | rfl | assumption | decide | exact Or.inl rfl | exact Or.inr rfl | (simp only; omega)))⟩⟩ rfl rfl hl.1 rfl (lv_room (Nat.le_of_ble_eq_true rfl)) dX10_isTerm_89 ⟨Nat.zero_le _, Nat.zero_le _⟩) hh_18.1 (fun q _ h => h) (fun q h => h) (fun r_21 u_20 t_20 H_20 locs_20 ht_20 hvm_20 hr_21 hb_20 hz_20 hk_20 hS_20 => ?_)
                obtain ⟨qa_20, qc_20⟩ := u_20
                rw [ht_20] at hb_20
                obtain ⟨hb_201, hb_202, hb_203, hb_204, hb_205⟩ := hb_20
                have hh_20 : jSt (dC, dI) B base G0 G0 EX10_isTerm s.heap 0 0 [(r0, 12, 4, .int qa_20), (r0, 12, 10, .int qc_20), (r0, 12, 3, .int tk)] [] [] H_20 locs_20 := ((hh_18.call hb_201 hb_202 hb_203 hb_204 hS_20 rfl (L1 := [(r0, 12, 3, .int tk)]) [2] rfl rfl (M1 := []) [] rfl rfl (I1 := []) [] rfl rfl).more hb_205)
                clear hh_18 ht_20 hvm_20 hz_20 hk_20 hS_20 hb_201 hb_202 hb_203 hb_204 hb_205
                try simp only at hr_21
                obtain ⟨hr_21b, hr_21p⟩ := hr_21
                obtain ⟨hr_21p_0, hr_21p_1, hr_21p_2, hr_21p_3, hr_21p_4⟩ := hr_21p
                have hr_21' := jb_01 hr_21b
                refine lv_if_ne (tgt := 97) hx hb dX10_isTerm_92 (by decide) (fun c_22 => ?_) (fun c_22 => ?_)
                · skip
                  have c_22' : r_21.toInt ≠ 0 := jb_ne (rfl) ((by decide)) c_22
                  first | (have hr_21p_4q := hr_21p_4.resolve_left (by omega); clear hr_21p_4) | (have hr_21p_4q := hr_21p_4.resolve_right (by omega); clear hr_21p_4) | skip
                  refine lv_aload_n hx hb dX10_isTerm_97 rfl (lv_at hl 0 rfl) ?_
                  refine va_calli (A0 := jA base) (H0 := s.heap) (va_runV (As := []) (rest := []) ⟨hx, hb, hml, hown, hts⟩ (uX10_peek l dC dI ca base B hB hAp hB12 hB101 G0 H_20 r0 tk qa_20) (cwV 0 hts (jgV (jWr_79 _ (List.mem_of_getElem? (i := 18) rfl)) (jWr_79 _ (List.mem_of_getElem? (i := 19) rfl)) (jWr_79 _ (List.mem_of_getElem? (i := 20) rfl)) (jWr_4 _ (List.mem_of_getElem? (i := 14) rfl)) (jWr_79 _ (List.mem_of_getElem? (i := 21) rfl))) rfl rfl rfl (by decide +kernel) ⟨by rw [← hR]; show (0) + 1 ≤ ef + 3; omega, by rw [← hR]; show 8 + (1 + 11) + (0) ≤ 60 * ef + 120; omega⟩) ⟨fun a U g mk q => by obtain ⟨q0, q1, q2, qK, q10, q11, q12⟩ := q; exact ⟨q0, q1, q2, jG.calling g mk a qK, q10, q11, q12⟩, hh_20.recv (C := RX10) (T := TX10) (N := 11) hB12 rfl (by decide) hg_r0 hK, fun U hU hW => ⟨rfl, hU, hh_20.2.1, hG.step hW hU hh_20.1, hg_r0, (hh_20.2.2.1.sub (L1 := [(r0, 12, 3, .int tk), (r0, 12, 4, .int qa_20)]) [2, 0] rfl), by first | omega | (refine ⟨?_, ?_, ?_, ?_⟩ <;> (first | omega | rfl | assumption | decide | exact Or.inl rfl | exact Or.inr rfl | (simp only; omega)))⟩⟩ rfl rfl hl.1 rfl (lv_room (Nat.le_of_ble_eq_true rfl)) dX10_isTerm_98 ⟨Nat.zero_le _, Nat.zero_le _⟩) hh_20.1 (fun q _ h => h) (fun q h => h) (fun r_24 u_23 t_23 H_23 locs_23 ht_23 hvm_23 hr_24 hb_23 hz_23 hk_23 hS_23 => ?_)
                  rw [ht_23] at hb_23
                  obtain ⟨hb_231, hb_232, hb_233, hb_234, hb_235⟩ := hb_23
                  have hh_23 : jSt (dC, dI) B base G0 G0 EX10_isTerm s.heap 0 0 [(r0, 12, 4, .int qa_20), (r0, 12, 10, .int qc_20), (r0, 12, 3, .int tk)] [] [] H_23 locs_23 := ((hh_20.call hb_231 hb_232 hb_233 hb_234 hS_23 rfl (L1 := [(r0, 12, 4, .int qa_20), (r0, 12, 10, .int qc_20), (r0, 12, 3, .int tk)]) [0, 1, 2] rfl rfl (M1 := []) [] rfl rfl (I1 := []) [] rfl rfl).more hb_235)
                  clear hh_20 ht_23 hvm_23 hz_23 hk_23 hS_23 hb_231 hb_232 hb_233 hb_234 hb_235
                  refine lv_bipush (v := 44) hx hb dX10_isTerm_101 (by decide) ?_
                  refine lv_icmp_eq (tgt := 126) hx hb dX10_isTerm_103 (by decide) (fun c_25 => ?_) (fun c_25 => ?_)
                  · skip
                    have c_25' : r_24.toInt = 44 := jb_eq (rfl) ((by decide)) c_25
                    first | (have hr_24q := hr_24.resolve_left (by omega); clear hr_24) | (have hr_24q := hr_24.resolve_right (by omega); clear hr_24) | try clear hr_24
                    obtain ⟨z_26, ez_26⟩ : ∃ y : Int32, y = v5_15 + 1 := ⟨_, rfl⟩
                    refine lv_iinc (v := z_26) (lv' := [(5, .int z_26), (0, .ref r0), (1, .int a1), (2, .int a2), (3, .int nc), (4, .int r_2)]) hx hb dX10_isTerm_126 hl (k := 5) rfl (by rw [ez_26]; rfl) (by decide) rfl (fun ls hl => ?_)
                    have hz_26 : z_26.toInt = v5_15.toInt + 1 := by rw [ez_26]; exact jb_iadd2 (rfl) (by decide) (by omega)
                    refine lv_goto (tgt := 65) hx hb dX10_isTerm_129 (by decide) ?_
                    exact L65 z_26 qa_20 qc_20 _ _ hh_23 (by first | omega | (refine ⟨?_, ?_, ?_, ?_, ?_, ?_⟩ <;> (first | omega | rfl | assumption | decide | exact Or.inl rfl | exact Or.inr rfl | (simp only; omega)))) (by omega) _ (lv_sub hl [1, 2, 3, 4, 5, 0] rfl)
                  · skip
                    have c_25' : r_24.toInt ≠ 44 := jb_eq_n (rfl) ((by decide)) c_25
                    try clear hr_24
                    refine lv_aload_n hx hb dX10_isTerm_106 rfl (lv_at hl 0 rfl) ?_
                    obtain ⟨v_27, hv_27, hh_28⟩ := hh_23.pin (C := RX10) (T := TX10) (N := 11) hB12 rfl (by decide) hg_r0 (i := 9) (by decide) rfl
                    clear hh_23
                    obtain ⟨nodes_29, rfl, hg_nodes_29⟩ := hv_27
                    refine j7_read hx hb hown hK (C := RX10) (T := TX10) (N := 11) rfl hly_12_9 hlk_21 (hh_28.at 0 rfl) dX10_isTerm_107 ?_
                    refine lv_iload_n hx hb dX10_isTerm_110 rfl (lv_at hl 3 rfl) ?_
                    refine lv_dup2_11 hx hb dX10_isTerm_111 rfl rfl ?_
                    refine j7_iald hx hb hK hh_28 hB101 1 rfl (by decide) hg_nodes_29 (x := nc.toInt) (rfl) (by omega) dX10_isTerm_112 (fun z_30 (hz_30 : True) => ?_)
                    refine lv_iload hx hb dX10_isTerm_113 (lv_at hl 5 rfl) ?_
                    refine lv_iconst (v := 4) hx hb dX10_isTerm_115 (by decide) ?_
                    refine lv_ishl hx hb dX10_isTerm_116 ?_
                    refine lv_topi (fun z_31 ez_31 => ?_)
                    refine lv_ior hx hb dX10_isTerm_117 ?_
                    refine lv_topi (fun z_32 ez_32 => ?_)
                    refine j7_iast hx hb hK hh_28 hB hB101 1 rfl (by decide) (by decide) rfl rfl rfl hg_nodes_29 (x := nc.toInt) (rfl) (by omega) (trivial) dX10_isTerm_118 (fun H_33 locs_33 hh_33 => ?_)
                    clear hh_28
                    refine lv_aload_n hx hb dX10_isTerm_119 rfl (lv_at hl 0 rfl) ?_
                    refine lv_bipush (v := 41) hx hb dX10_isTerm_120 (by decide) ?_
                    refine va_calli (A0 := jA base) (H0 := s.heap) (va_runV (As := [.int 41]) (rest := []) ⟨hx, hb, hml, hown, hts⟩ (uX10_isSign l dC dI ca base B hB hAp hB12 hB101 G0 H_33 r0 41 tk qa_20) (cwV 1 hts (jgV (jWr_80 _ (List.mem_of_getElem? (i := 2) rfl)) (jWr_80 _ (List.mem_of_getElem? (i := 3) rfl)) (jWr_80 _ (List.mem_of_getElem? (i := 4) rfl)) (jWr_4 _ (List.mem_of_getElem? (i := 14) rfl)) (jWr_80 _ (List.mem_of_getElem? (i := 5) rfl))) rfl rfl rfl (by decide +kernel) ⟨by rw [← hR]; show (0) + 1 ≤ ef + 3; omega, by rw [← hR]; show 8 + (3 + 11) + (0) ≤ 60 * ef + 120; omega⟩) ⟨fun a U g mk q => by obtain ⟨q0, q1, q2, qK, q10, q11, q12⟩ := q; exact ⟨q0, q1, q2, jG.calling g mk a qK, q10, q11, q12⟩, hh_33.recv (C := RX10) (T := TX10) (N := 11) hB12 rfl (by decide) hg_r0 hK, fun U hU hW => ⟨rfl, hU, hh_33.2.1, hG.step hW hU hh_33.1, hg_r0, (hh_33.2.2.1.sub (L1 := [(r0, 12, 3, .int tk), (r0, 12, 4, .int qa_20)]) [3, 1] rfl), by first | omega | (refine ⟨?_, ?_, ?_, ?_, ?_⟩ <;> (first | omega | rfl | assumption | decide | exact Or.inl rfl | exact Or.inr rfl | (simp only; omega)))⟩⟩ rfl rfl hl.1 rfl (lv_room (Nat.le_of_ble_eq_true rfl)) dX10_isTerm_122 ⟨Nat.zero_le _, Nat.zero_le _⟩) hh_33.1 (fun q _ h => h) (fun q h => h) (fun r_35 u_34 t_34 H_34 locs_34 ht_34 hvm_34 hr_35 hb_34 hz_34 hk_34 hS_34 => ?_)
                    obtain ⟨qa_34, rfl⟩ : ∃ z, z = u_34 := ⟨_, rfl⟩
                    rw [ht_34] at hb_34
                    obtain ⟨hb_341, hb_342, hb_343, hb_344, hb_345⟩ := hb_34
                    have hh_34 : jSt (dC, dI) B base G0 G0 EX10_isTerm s.heap 0 0 [(r0, 12, 4, .int qa_34), (r0, 12, 9, .ref nodes_29), (r0, 12, 10, .int qc_20), (r0, 12, 3, .int tk)] [] [] H_34 locs_34 := ((hh_33.call hb_341 hb_342 hb_343 hb_344 hS_34 rfl (L1 := [(r0, 12, 9, .ref nodes_29), (r0, 12, 10, .int qc_20), (r0, 12, 3, .int tk)]) [0, 2, 3] rfl rfl (M1 := []) [] rfl rfl (I1 := []) [] rfl rfl).more hb_345)
                    clear hh_33 ht_34 hvm_34 hz_34 hk_34 hS_34 hb_341 hb_342 hb_343 hb_344 hb_345
                    obtain ⟨hr_35b, hr_35p⟩ := hr_35
                    obtain ⟨hr_35p_0, hr_35p_1⟩ := hr_35p
                    have hr_35' := jb_01 hr_35b
                    rw [hQ]
                    exact W.zret (v := r_35) hx hb hr (jb_nz (hr_35b)) (fun t ht hW => ⟨⟨r_35, (qa_34, qc_20), rfl, ⟨(hr_35b), by first | omega | (refine ⟨?_, ?_, ?_, ?_, ?_⟩ <;> (first | omega | rfl | assumption | decide | exact Or.inl rfl | exact Or.inr rfl | (simp only; omega)))⟩, hh_34.rt (M1 := [(r0, 12, 4, .int qa_34), (r0, 12, 10, .int qc_20)]) [0, 2] rfl ht⟩, by rw [ht]; try exact hh_34.1.1, fun q h9 hq => by rw [ht]; try exact hh_34.1.2.1 q h9 hq⟩) hh_34.1.2.2 dX10_isTerm_125
                · skip
                  have c_22' : r_21.toInt = 0 := jb_ne_n (rfl) ((by decide)) c_22
                  first | (have hr_21p_4q := hr_21p_4.resolve_left (by omega); clear hr_21p_4) | (have hr_21p_4q := hr_21p_4.resolve_right (by omega); clear hr_21p_4) | skip
                  refine lv_iconst (v := 0) hx hb dX10_isTerm_95 (by decide) ?_
                  rw [hQ]
                  exact W.zret (v := 0) hx hb hr (jb_nz (Or.inl rfl)) (fun t ht hW => ⟨⟨0, (qa_20, qc_20), rfl, ⟨(Or.inl rfl), by first | omega | (refine ⟨?_, ?_, ?_, ?_, ?_⟩ <;> (first | omega | rfl | assumption | decide | exact Or.inl rfl | exact Or.inr rfl | (simp only; omega)))⟩, hh_20.rt (M1 := [(r0, 12, 4, .int qa_20), (r0, 12, 10, .int qc_20)]) [0, 1] rfl ht⟩, by rw [ht]; try exact hh_20.1.1, fun q h9 hq => by rw [ht]; try exact hh_20.1.2.1 q h9 hq⟩) hh_20.1.2.2 dX10_isTerm_96
          exact L65 (2048 - (1 : Int32).toInt : Int).toNat.succ 1 z_3 qc_8 _ _ (hh_11.sub (L1 := [(r0, 12, 4, .int z_3), (r0, 12, 10, .int qc_8), (r0, 12, 3, .int tk)]) [1, 0, 2] rfl (M1 := []) [] rfl (I1 := []) [] rfl) (by first | omega | (refine ⟨?_, ?_, ?_, ?_, ?_, ?_⟩ <;> (first | omega | rfl | assumption | decide | exact Or.inl rfl | exact Or.inr rfl | (simp only; omega)))) (by omega) _ (lv_sub hl [3, 4, 5, 2, 1, 0] rfl)
        · skip
          have c_14' : a2.toInt ≥ 12 := jb_lt_n (rfl) ((by decide)) c_14
          refine lv_iconst (v := 0) hx hb dX10_isTerm_60 (by decide) ?_
          rw [hQ]
          exact W.zret (v := 0) hx hb hr (jb_nz (Or.inl rfl)) (fun t ht hW => ⟨⟨0, (z_3, qc_8), rfl, ⟨(Or.inl rfl), by first | omega | (refine ⟨?_, ?_, ?_, ?_, ?_⟩ <;> (first | omega | rfl | assumption | decide | exact Or.inl rfl | exact Or.inr rfl | (simp only; omega)))⟩, hh_11.rt (M1 := [(r0, 12, 4, .int z_3), (r0, 12, 10, .int qc_8)]) [1, 0] rfl ht⟩, by rw [ht]; try exact hh_11.1.1, fun q h9 hq => by rw [ht]; try exact hh_11.1.2.1 q h9 hq⟩) hh_11.1.2.2 dX10_isTerm_61
      · skip
        have c_13' : r_12.toInt ≠ 40 := jb_eq_n (rfl) ((by decide)) c_13
        try clear hr_12
        refine lv_iconst (v := 1) hx hb dX10_isTerm_52 (by decide) ?_
        rw [hQ]
        exact W.zret (v := 1) hx hb hr (jb_nz (Or.inr rfl)) (fun t ht hW => ⟨⟨1, (z_3, qc_8), rfl, ⟨(Or.inr rfl), by first | omega | (refine ⟨?_, ?_, ?_, ?_, ?_⟩ <;> (first | omega | rfl | assumption | decide | exact Or.inl rfl | exact Or.inr rfl | (simp only; omega)))⟩, hh_11.rt (M1 := [(r0, 12, 4, .int z_3), (r0, 12, 10, .int qc_8)]) [1, 0] rfl ht⟩, by rw [ht]; try exact hh_11.1.1, fun q h9 hq => by rw [ht]; try exact hh_11.1.2.1 q h9 hq⟩) hh_11.1.2.2 dX10_isTerm_53
    · skip
      have c_10' : r_9.toInt = 0 := jb_ne_n (rfl) ((by decide)) c_10
      first | (have hr_9p_0q := hr_9p_0.resolve_left (by omega); clear hr_9p_0) | (have hr_9p_0q := hr_9p_0.resolve_right (by omega); clear hr_9p_0) | skip
      refine lv_iconst (v := 0) hx hb dX10_isTerm_41 (by decide) ?_
      rw [hQ]
      exact W.zret (v := 0) hx hb hr (jb_nz (Or.inl rfl)) (fun t ht hW => ⟨⟨0, (z_3, qc_8), rfl, ⟨(Or.inl rfl), by first | omega | (refine ⟨?_, ?_, ?_, ?_, ?_⟩ <;> (first | omega | rfl | assumption | decide | exact Or.inl rfl | exact Or.inr rfl | (simp only; omega)))⟩, hh_8.rt (M1 := [(r0, 12, 4, .int z_3), (r0, 12, 10, .int qc_8)]) [1, 0] rfl ht⟩, by rw [ht]; try exact hh_8.1.1, fun q h9 hq => by rw [ht]; try exact hh_8.1.2.1 q h9 hq⟩) hh_8.1.2.2 dX10_isTerm_42
theorem aX10_isTerm (l : Launch) (dC : Nat → ClassId) (dI : Nat → Nat → Nat) (ca : Nat → ClassId) (base : Nat) (B : jF) (hB : jBok B) (hAp : jAp (dC, dI)) (hB12 : ∀ n G a H, B 12 n G a H ↔ jOb (dC, dI) 12 11 (F12 n G) a H) (hB101 : ∀ n G a H, B 101 n G a H ↔ jAr (dC, dI) (ca 1) (fun j z => True) n a H) : ∀ ef, qX10_isTerm l dC dI ca base B ef := fun ef => Nat.strongRecOn ef (fun e ih => fun G0 H0 r0 a1 a2 tk pa nc => uX10_isTerm l dC dI ca base B hB hAp hB12 hB101 e ih G0 H0 r0 a1 a2 tk pa nc)
set_option maxHeartbeats 4000000 in
set_option maxRecDepth 20000 in
theorem uX10_isOne (l : Launch) (dC : Nat → ClassId) (dI : Nat → Nat → Nat) (ca : Nat → ClassId) (base : Nat) (B : jF) (hB : jBok B) (hAp : jAp (dC, dI)) (hB12 : ∀ n G a H, B 12 n G a H ↔ jOb (dC, dI) 12 11 (F12 n G) a H) (hB101 : ∀ n G a H, B 101 n G a H ↔ jAr (dC, dI) (ca 1) (fun j z => True) n a H) (ef : Nat) (ihO : ∀ e1, e1 < ef → qX10_isOne l dC dI ca base B e1) (ihC : ∀ e1, e1 < ef → qX10_isChain l dC dI ca base B e1 2) (G0 : jT) (H0 : Heap) (r0 : Nat) (a1 : Int32) (tk : Int32) (pa : Int32) (nc : Int32) : Met l yX10_isOne (jw yX10_isOne cX10_isOne 6 (some .boolean)) ({ frames := 5 * ef + 5, cells := 0, slots := 0, locals := 160 * ef + 200 }) (va_Pc [.ref r0, .int a1] (fun U => U.heap = H0 ∧ jX B base G0 [] H0 ∧ jG dC dI ca base U ∧ G0 r0 = some (12, 0) ∧ jP (dC, dI) G0 H0 [(r0, 12, 3, .int tk), (r0, 12, 4, .int pa), (r0, 12, 10, .int nc)] ∧ 0 ≤ tk.toInt ∧ tk.toInt ≤ 1500 ∧ 0 ≤ pa.toInt ∧ pa.toInt ≤ 1503 ∧ 0 ≤ nc.toInt ∧ nc.toInt ≤ 3000 ∧ pa.toInt ≤ tk.toInt ∧ a1.toInt = 12 - ef ∧ ef ≤ 12)) (va_Qi (S := Int32 × Int32) (fun r u => (r = 0 ∨ r = 1) ∧ (0 ≤ u.1.toInt ∧ u.1.toInt ≤ tk.toInt + 2 ∧ nc.toInt ≤ u.2.toInt ∧ u.2.toInt ≤ 3000 ∧ (r.toInt = 0 ∨ (u.1.toInt ≤ tk.toInt ∧ nc.toInt + 1 ≤ u.2.toInt)))) (fun u t => jRt (dC, dI) B base G0 EX10_isOne H0 [(r0, 12, 4, .int u.1), (r0, 12, 10, .int u.2)] t.heap) (jA base)) 0 0 (jA base) := by
  refine Met.ofW (cc := cX10_isOne) (maxL := 6) (ret := (some .boolean)) (by decide) rfl ?_
  intro p e s m args below meth c s₁ Bd hml hv
  obtain ⟨rfl, hH0, hX, hG, hg_r0, hP0, hp0, hp1, hp2, hp3, hp4, hp5, hp6, hp7, hp8⟩ := hv
  have hK := hG.1
  have hx := Bd.exec
  have hb := Bd.bytes
  have hr := Bd.returns
  have hts := atoms_spec (ws := (jw yX10_isOne cX10_isOne 6 (some .boolean))) Bd.pre
  have htw : ∀ w ∈ jWl, w.before _ s = true := fun w h => hts w (List.mem_cons_of_mem _ h)
  have hown : s.vm.findClass RX10 = some m.cls := findClass_of_methodNamed Bd.named
  have hlocks := Bd.notSynchronized
  obtain ⟨Q, hQ⟩ : ∃ Q, Q = MQ below (va_Qi (S := Int32 × Int32) (fun r u => (r = 0 ∨ r = 1) ∧ (0 ≤ u.1.toInt ∧ u.1.toInt ≤ tk.toInt + 2 ∧ nc.toInt ≤ u.2.toInt ∧ u.2.toInt ≤ 3000 ∧ (r.toInt = 0 ∨ (u.1.toInt ≤ tk.toInt ∧ nc.toInt + 1 ≤ u.2.toInt)))) (fun u t => jRt (dC, dI) B base G0 EX10_isOne H0 [(r0, 12, 4, .int u.1), (r0, 12, 10, .int u.2)] t.heap) (jA base)) ([.ref r0, .int a1] : List Value).toArray s 0 0 (jA base) := ⟨_, rfl⟩
  rw [← hQ]
  have hl := lv_entry ([.ref r0, .int a1]) (n := 6) (Nat.le_of_ble_eq_true rfl)
  rw [lg_entry_eq]
  generalize (lg_sl ([.ref r0, .int a1]) ++ List.replicate (6 - (lg_sl ([.ref r0, .int a1])).length) Slot.unset).toArray = ls at hl ⊢
  have hl : lv_has ls 6 [(0, .ref r0), (1, .int a1)] := hl
  generalize hR : (headSpec (jw yX10_isOne cX10_isOne 6 (some .boolean)) ({ frames := 5 * ef + 5, cells := 0, slots := 0, locals := 160 * ef + 200 })).room = R
  subst hH0
  have hh : jSt (dC, dI) B base G0 G0 EX10_isOne s.heap 0 0 [(r0, 12, 3, .int tk), (r0, 12, 4, .int pa), (r0, 12, 10, .int nc)] [] [] s.heap [] := jSt.start hX hP0 jMc.nil jIs.nil
  clear hX hP0
  have hk0 : (0 : Int32).toInt = 0 := by decide
  have hk1 : (1 : Int32).toInt = 1 := by decide
  have hk2 : (2 : Int32).toInt = 2 := by decide
  have hk4 : (4 : Int32).toInt = 4 := by decide
  have hk5 : (5 : Int32).toInt = 5 := by decide
  have hk6 : (6 : Int32).toInt = 6 := by decide
  have hk7 : (7 : Int32).toInt = 7 := by decide
  have hk8 : (8 : Int32).toInt = 8 := by decide
  have hk12 : (12 : Int32).toInt = 12 := by decide
  have hk15 : (15 : Int32).toInt = 15 := by decide
  have hk40 : (40 : Int32).toInt = 40 := by decide
  have hk41 : (41 : Int32).toInt = 41 := by decide
  have hk44 : (44 : Int32).toInt = 44 := by decide
  have hk61 : (61 : Int32).toInt = 61 := by decide
  have hk126 : (126 : Int32).toInt = 126 := by decide
  have hly_12_4 := htw (u_lay RX10 TX10 4) (jWc_wsX100 _ (u_in_lay (by decide)))
  have hly_12_9 := htw (u_lay RX10 TX10 9) (jWc_wsX100 _ (u_in_lay (by decide)))
  have hly_12_10 := htw (u_lay RX10 TX10 10) (jWc_wsX100 _ (u_in_lay (by decide)))
  have hlk_83 := (htw (.fieldLink RX10 83 "ProofServer$Syntax" "at" "I") (jWr_79 _ (List.mem_of_getElem? (i := 5) rfl)))
  have hlk_89 := (htw (.fieldLink RX10 89 "ProofServer$Syntax" "nodeCount" "I") (jWr_79 _ (List.mem_of_getElem? (i := 7) rfl)))
  have hlk_21 := (htw (.fieldLink RX10 21 "ProofServer$Syntax" "nodes" "[I") (jWr_8 _ (List.mem_of_getElem? (i := 11) rfl)))
  have hrg_a1 := jb_rng a1
  refine lv_aload_n hx hb dX10_isOne_0 rfl (lv_at hl 0 rfl) ?_
  refine va_calli (A0 := jA base) (H0 := s.heap) (va_runV (As := []) (rest := []) ⟨hx, hb, hml, hown, hts⟩ (uX10_peek l dC dI ca base B hB hAp hB12 hB101 G0 s.heap r0 tk pa) (cwV 0 hts (jgV (jWr_79 _ (List.mem_of_getElem? (i := 18) rfl)) (jWr_79 _ (List.mem_of_getElem? (i := 19) rfl)) (jWr_79 _ (List.mem_of_getElem? (i := 20) rfl)) (jWr_4 _ (List.mem_of_getElem? (i := 14) rfl)) (jWr_79 _ (List.mem_of_getElem? (i := 21) rfl))) rfl rfl rfl (by decide +kernel) ⟨by rw [← hR]; show (0) + 1 ≤ 5 * ef + 5; omega, by rw [← hR]; show 8 + (1 + 11) + (0) ≤ 160 * ef + 200; omega⟩) ⟨fun a U g mk q => by obtain ⟨q0, q1, q2, qK, q10, q11, q12⟩ := q; exact ⟨q0, q1, q2, jG.calling g mk a qK, q10, q11, q12⟩, hh.recv (C := RX10) (T := TX10) (N := 11) hB12 rfl (by decide) hg_r0 hK, fun U hU hW => ⟨rfl, hU, hh.2.1, hG.step hW hU hh.1, hg_r0, (hh.2.2.1.sub (L1 := [(r0, 12, 3, .int tk), (r0, 12, 4, .int pa)]) [0, 1] rfl), by first | omega | (refine ⟨?_, ?_, ?_, ?_⟩ <;> (first | omega | rfl | assumption | decide | exact Or.inl rfl | exact Or.inr rfl | (simp only; omega)))⟩⟩ rfl rfl hl.1 rfl (lv_room (Nat.le_of_ble_eq_true rfl)) dX10_isOne_1 ⟨Nat.zero_le _, Nat.zero_le _⟩) hh.1 (fun q _ h => h) (fun q h => h) (fun r_2 u_1 t_1 H_1 locs_1 ht_1 hvm_1 hr_2 hb_1 hz_1 hk_1 hS_1 => ?_)
  rw [ht_1] at hb_1
  obtain ⟨hb_11, hb_12, hb_13, hb_14, hb_15⟩ := hb_1
  have hh_1 : jSt (dC, dI) B base G0 G0 EX10_isOne s.heap 0 0 [(r0, 12, 3, .int tk), (r0, 12, 4, .int pa), (r0, 12, 10, .int nc)] [] [] H_1 locs_1 := ((hh.call hb_11 hb_12 hb_13 hb_14 hS_1 rfl (L1 := [(r0, 12, 3, .int tk), (r0, 12, 4, .int pa), (r0, 12, 10, .int nc)]) [0, 1, 2] rfl rfl (M1 := []) [] rfl rfl (I1 := []) [] rfl rfl).more hb_15)
  clear hh ht_1 hvm_1 hz_1 hk_1 hS_1 hb_11 hb_12 hb_13 hb_14 hb_15
  refine lv_istore_n (lv' := [(2, .int r_2), (0, .ref r0), (1, .int a1)]) hx hb dX10_isOne_4 rfl hl (by decide) rfl (fun ls hl => ?_)
  refine lv_aload_n hx hb dX10_isOne_5 rfl (lv_at hl 1 rfl) ?_
  refine va_calli (A0 := jA base) (H0 := s.heap) (va_runV (As := []) (rest := []) ⟨hx, hb, hml, hown, hts⟩ (uX10_peekName l dC dI ca base B hB hAp hB12 hB101 G0 H_1 r0 tk pa) (cwV 0 hts (jgV (jWr_79 _ (List.mem_of_getElem? (i := 14) rfl)) (jWr_79 _ (List.mem_of_getElem? (i := 15) rfl)) (jWr_79 _ (List.mem_of_getElem? (i := 16) rfl)) (jWr_4 _ (List.mem_of_getElem? (i := 14) rfl)) (jWr_79 _ (List.mem_of_getElem? (i := 17) rfl))) rfl rfl rfl (by decide +kernel) ⟨by rw [← hR]; show (1) + 1 ≤ 5 * ef + 5; omega, by rw [← hR]; show 8 + (1 + 11) + (20) ≤ 160 * ef + 200; omega⟩) ⟨fun a U g mk q => by obtain ⟨q0, q1, q2, qK, q10, q11, q12⟩ := q; exact ⟨q0, q1, q2, jG.calling g mk a qK, q10, q11, q12⟩, hh_1.recv (C := RX10) (T := TX10) (N := 11) hB12 rfl (by decide) hg_r0 hK, fun U hU hW => ⟨rfl, hU, hh_1.2.1, hG.step hW hU hh_1.1, hg_r0, (hh_1.2.2.1.sub (L1 := [(r0, 12, 3, .int tk), (r0, 12, 4, .int pa)]) [0, 1] rfl), by first | omega | (refine ⟨?_, ?_, ?_, ?_⟩ <;> (first | omega | rfl | assumption | decide | exact Or.inl rfl | exact Or.inr rfl | (simp only; omega)))⟩⟩ rfl rfl hl.1 rfl (lv_room (Nat.le_of_ble_eq_true rfl)) dX10_isOne_6 ⟨Nat.zero_le _, Nat.zero_le _⟩) hh_1.1 (fun q _ h => h) (fun q h => h) (fun r_4 u_3 t_3 H_3 locs_3 ht_3 hvm_3 hr_4 hb_3 hz_3 hk_3 hS_3 => ?_)
  rw [ht_3] at hb_3
  obtain ⟨hb_31, hb_32, hb_33, hb_34, hb_35⟩ := hb_3
  have hh_3 : jSt (dC, dI) B base G0 G0 EX10_isOne s.heap 0 0 [(r0, 12, 3, .int tk), (r0, 12, 4, .int pa), (r0, 12, 10, .int nc)] [] [] H_3 locs_3 := ((hh_1.call hb_31 hb_32 hb_33 hb_34 hS_3 rfl (L1 := [(r0, 12, 3, .int tk), (r0, 12, 4, .int pa), (r0, 12, 10, .int nc)]) [0, 1, 2] rfl rfl (M1 := []) [] rfl rfl (I1 := []) [] rfl rfl).more hb_35)
  clear hh_1 ht_3 hvm_3 hz_3 hk_3 hS_3 hb_31 hb_32 hb_33 hb_34 hb_35
  refine lv_istore_n (lv' := [(3, .int r_4), (2, .int r_2), (0, .ref r0), (1, .int a1)]) hx hb dX10_isOne_9 rfl hl (by decide) rfl (fun ls hl => ?_)
  refine lv_iload_n hx hb dX10_isOne_10 rfl (lv_at hl 1 rfl) ?_
  refine lv_bipush (v := 126) hx hb dX10_isOne_11 (by decide) ?_
  refine lv_icmp_ne (tgt := 64) hx hb dX10_isOne_13 (by decide) (fun c_5 => ?_) (fun c_5 => ?_)
  · skip
    have c_5' : r_2.toInt ≠ 126 := jb_ne (rfl) ((by decide)) c_5
    refine lv_iload_n hx hb dX10_isOne_64 rfl (lv_at hl 1 rfl) ?_
    refine lv_bipush (v := 40) hx hb dX10_isOne_65 (by decide) ?_
    refine lv_icmp_ne (tgt := 112) hx hb dX10_isOne_67 (by decide) (fun c_6 => ?_) (fun c_6 => ?_)
    · skip
      have c_6' : r_2.toInt ≠ 40 := jb_ne (rfl) ((by decide)) c_6
      refine lv_iload_n hx hb dX10_isOne_112 rfl (lv_at hl 0 rfl) ?_
      refine lv_if_eq (tgt := 121) hx hb dX10_isOne_113 (by decide) (fun c_7 => ?_) (fun c_7 => ?_)
      · skip
        have c_7' : r_4.toInt = 0 := jb_eq (rfl) ((by decide)) c_7
        first | (have hr_4q := hr_4.resolve_left (by omega); clear hr_4) | (have hr_4q := hr_4.resolve_right (by omega); clear hr_4) | skip
        refine lv_aload_n hx hb dX10_isOne_121 rfl (lv_at hl 2 rfl) ?_
        refine lv_dup hx hb dX10_isOne_122 rfl ?_
        refine j7_read hx hb hown hK (C := RX10) (T := TX10) (N := 11) rfl hly_12_4 hlk_83 (hh_3.at 1 rfl) dX10_isOne_123 ?_
        refine lv_iconst (v := 1) hx hb dX10_isOne_126 (by decide) ?_
        refine lv_iadd hx hb dX10_isOne_127 ?_
        refine lv_topi (fun z_8 ez_8 => ?_)
        have hz_8 : z_8.toInt = pa.toInt + 1 := by rw [ez_8]; exact jb_iadd2 (rfl) ((by decide)) (by omega)
        refine j7_put hx hb hown hK hh_3 hB hAp hB12 (C := RX10) (T := TX10) (N := 11) rfl (by decide) hg_r0 (i := 4) (by decide) hly_12_4 rfl hlk_83 rfl (ty := .int) (v := .int z_8) (by decide +kernel) rfl rfl (⟨_, rfl, by omega, by omega⟩) rfl (L1 := [(r0, 12, 3, .int tk), (r0, 12, 10, .int nc)]) [0, 2] rfl rfl rfl dX10_isOne_128 (fun H_9 locs_9 hh_9 => ?_)
        clear hh_3
        refine lv_aload_n hx hb dX10_isOne_131 rfl (lv_at hl 2 rfl) ?_
        refine va_calli (A0 := jA base) (H0 := s.heap) (va_runV (As := []) (rest := []) ⟨hx, hb, hml, hown, hts⟩ (uX10_peekName l dC dI ca base B hB hAp hB12 hB101 G0 H_9 r0 tk z_8) (cwV 0 hts (jgV (jWr_79 _ (List.mem_of_getElem? (i := 14) rfl)) (jWr_79 _ (List.mem_of_getElem? (i := 15) rfl)) (jWr_79 _ (List.mem_of_getElem? (i := 16) rfl)) (jWr_4 _ (List.mem_of_getElem? (i := 14) rfl)) (jWr_79 _ (List.mem_of_getElem? (i := 17) rfl))) rfl rfl rfl (by decide +kernel) ⟨by rw [← hR]; show (1) + 1 ≤ 5 * ef + 5; omega, by rw [← hR]; show 8 + (1 + 11) + (20) ≤ 160 * ef + 200; omega⟩) ⟨fun a U g mk q => by obtain ⟨q0, q1, q2, qK, q10, q11, q12⟩ := q; exact ⟨q0, q1, q2, jG.calling g mk a qK, q10, q11, q12⟩, hh_9.recv (C := RX10) (T := TX10) (N := 11) hB12 rfl (by decide) hg_r0 hK, fun U hU hW => ⟨rfl, hU, hh_9.2.1, hG.step hW hU hh_9.1, hg_r0, (hh_9.2.2.1.sub (L1 := [(r0, 12, 3, .int tk), (r0, 12, 4, .int z_8)]) [1, 0] rfl), by first | omega | (refine ⟨?_, ?_, ?_, ?_⟩ <;> (first | omega | rfl | assumption | decide | exact Or.inl rfl | exact Or.inr rfl | (simp only; omega)))⟩⟩ rfl rfl hl.1 rfl (lv_room (Nat.le_of_ble_eq_true rfl)) dX10_isOne_132 ⟨Nat.zero_le _, Nat.zero_le _⟩) hh_9.1 (fun q _ h => h) (fun q h => h) (fun r_11 u_10 t_10 H_10 locs_10 ht_10 hvm_10 hr_11 hb_10 hz_10 hk_10 hS_10 => ?_)
        rw [ht_10] at hb_10
        obtain ⟨hb_101, hb_102, hb_103, hb_104, hb_105⟩ := hb_10
        have hh_10 : jSt (dC, dI) B base G0 G0 EX10_isOne s.heap 0 0 [(r0, 12, 4, .int z_8), (r0, 12, 3, .int tk), (r0, 12, 10, .int nc)] [] [] H_10 locs_10 := ((hh_9.call hb_101 hb_102 hb_103 hb_104 hS_10 rfl (L1 := [(r0, 12, 4, .int z_8), (r0, 12, 3, .int tk), (r0, 12, 10, .int nc)]) [0, 1, 2] rfl rfl (M1 := []) [] rfl rfl (I1 := []) [] rfl rfl).more hb_105)
        clear hh_9 ht_10 hvm_10 hz_10 hk_10 hS_10 hb_101 hb_102 hb_103 hb_104 hb_105
        refine lv_istore (lv' := [(4, .int r_11), (3, .int r_4), (2, .int r_2), (0, .ref r0), (1, .int a1)]) hx hb dX10_isOne_135 hl (by decide) rfl (fun ls hl => ?_)
        refine lv_iload_n hx hb dX10_isOne_137 rfl (lv_at hl 1 rfl) ?_
        refine lv_if_ne (tgt := 145) hx hb dX10_isOne_138 (by decide) (fun c_12 => ?_) (fun c_12 => ?_)
        · skip
          have c_12' : r_4.toInt ≠ 0 := jb_ne (rfl) ((by decide)) c_12
          exact (by omega : False).elim
        · skip
          have c_12' : r_4.toInt = 0 := jb_ne_n (rfl) ((by decide)) c_12
          first | (have hr_4q := hr_4.resolve_left (by omega); clear hr_4) | (have hr_4q := hr_4.resolve_right (by omega); clear hr_4) | skip
          refine lv_iconst (v := 5) hx hb dX10_isOne_141 (by decide) ?_
          refine lv_goto (tgt := 147) hx hb dX10_isOne_142 (by decide) ?_
          refine lv_iload hx hb dX10_isOne_147 (lv_at hl 0 rfl) ?_
          refine lv_bipush (v := 15) hx hb dX10_isOne_149 (by decide) ?_
          refine lv_ishl hx hb dX10_isOne_151 ?_
          refine lv_topi (fun z_13 ez_13 => ?_)
          refine lv_ior hx hb dX10_isOne_152 ?_
          refine lv_topi (fun z_14 ez_14 => ?_)
          refine lv_istore (lv' := [(5, .int z_14), (4, .int r_11), (3, .int r_4), (2, .int r_2), (0, .ref r0), (1, .int a1)]) hx hb dX10_isOne_153 hl (by decide) rfl (fun ls hl => ?_)
          refine lv_aload_n hx hb dX10_isOne_155 rfl (lv_at hl 4 rfl) ?_
          refine lv_dup hx hb dX10_isOne_156 rfl ?_
          refine j7_read hx hb hown hK (C := RX10) (T := TX10) (N := 11) rfl hly_12_4 hlk_83 (hh_10.at 0 rfl) dX10_isOne_157 ?_
          refine lv_iconst (v := 1) hx hb dX10_isOne_160 (by decide) ?_
          refine lv_iadd hx hb dX10_isOne_161 ?_
          refine lv_topi (fun z_15 ez_15 => ?_)
          have hz_15 : z_15.toInt = z_8.toInt + 1 := by rw [ez_15]; exact jb_iadd2 (rfl) ((by decide)) (by omega)
          refine j7_put hx hb hown hK hh_10 hB hAp hB12 (C := RX10) (T := TX10) (N := 11) rfl (by decide) hg_r0 (i := 4) (by decide) hly_12_4 rfl hlk_83 rfl (ty := .int) (v := .int z_15) (by decide +kernel) rfl rfl (⟨_, rfl, by omega, by omega⟩) rfl (L1 := [(r0, 12, 3, .int tk), (r0, 12, 10, .int nc)]) [1, 2] rfl rfl rfl dX10_isOne_162 (fun H_16 locs_16 hh_16 => ?_)
          clear hh_10
          refine lv_iload_n hx hb dX10_isOne_165 rfl (lv_at hl 5 rfl) ?_
          refine lv_bipush (v := 12) hx hb dX10_isOne_166 (by decide) ?_
          refine lv_icmp_ge (tgt := 210) hx hb dX10_isOne_168 (by decide) (fun c_17 => ?_) (fun c_17 => ?_)
          · skip
            have c_17' : a1.toInt ≥ 12 := jb_ge (rfl) ((by decide)) c_17
            refine lv_iconst (v := 0) hx hb dX10_isOne_210 (by decide) ?_
            rw [hQ]
            exact W.zret (v := 0) hx hb hr (jb_nz (Or.inl rfl)) (fun t ht hW => ⟨⟨0, (z_15, nc), rfl, ⟨(Or.inl rfl), by first | omega | (refine ⟨?_, ?_, ?_, ?_, ?_⟩ <;> (first | omega | rfl | assumption | decide | exact Or.inl rfl | exact Or.inr rfl | (simp only; omega)))⟩, hh_16.rt (M1 := [(r0, 12, 4, .int z_15), (r0, 12, 10, .int nc)]) [0, 2] rfl ht⟩, by rw [ht]; try exact hh_16.1.1, fun q h9 hq => by rw [ht]; try exact hh_16.1.2.1 q h9 hq⟩) hh_16.1.2.2 dX10_isOne_211
          · skip
            have c_17' : a1.toInt < 12 := jb_ge_n (rfl) ((by decide)) c_17
            refine lv_iload hx hb dX10_isOne_171 (lv_at hl 1 rfl) ?_
            refine lv_iconst (v := 2) hx hb dX10_isOne_173 (by decide) ?_
            refine lv_icmp_le (tgt := 210) hx hb dX10_isOne_174 (by decide) (fun c_18 => ?_) (fun c_18 => ?_)
            · skip
              have c_18' : r_11.toInt ≤ 2 := jb_le (rfl) ((by decide)) c_18
              first | (have hr_11q := hr_11.resolve_left (by omega); clear hr_11) | (have hr_11q := hr_11.resolve_right (by omega); clear hr_11) | skip
              refine lv_iconst (v := 0) hx hb dX10_isOne_210 (by decide) ?_
              rw [hQ]
              exact W.zret (v := 0) hx hb hr (jb_nz (Or.inl rfl)) (fun t ht hW => ⟨⟨0, (z_15, nc), rfl, ⟨(Or.inl rfl), by first | omega | (refine ⟨?_, ?_, ?_, ?_, ?_⟩ <;> (first | omega | rfl | assumption | decide | exact Or.inl rfl | exact Or.inr rfl | (simp only; omega)))⟩, hh_16.rt (M1 := [(r0, 12, 4, .int z_15), (r0, 12, 10, .int nc)]) [0, 2] rfl ht⟩, by rw [ht]; try exact hh_16.1.1, fun q h9 hq => by rw [ht]; try exact hh_16.1.2.1 q h9 hq⟩) hh_16.1.2.2 dX10_isOne_211
            · skip
              have c_18' : r_11.toInt > 2 := jb_le_n (rfl) ((by decide)) c_18
              first | (have hr_11q := hr_11.resolve_left (by omega); clear hr_11) | (have hr_11q := hr_11.resolve_right (by omega); clear hr_11) | skip
              refine lv_aload_n hx hb dX10_isOne_177 rfl (lv_at hl 4 rfl) ?_
              refine lv_bipush (v := 44) hx hb dX10_isOne_178 (by decide) ?_
              refine va_calli (A0 := jA base) (H0 := s.heap) (va_runV (As := [.int 44]) (rest := []) ⟨hx, hb, hml, hown, hts⟩ (uX10_isSign l dC dI ca base B hB hAp hB12 hB101 G0 H_16 r0 44 tk z_15) (cwV 1 hts (jgV (jWr_80 _ (List.mem_of_getElem? (i := 2) rfl)) (jWr_80 _ (List.mem_of_getElem? (i := 3) rfl)) (jWr_80 _ (List.mem_of_getElem? (i := 4) rfl)) (jWr_4 _ (List.mem_of_getElem? (i := 14) rfl)) (jWr_80 _ (List.mem_of_getElem? (i := 5) rfl))) rfl rfl rfl (by decide +kernel) ⟨by rw [← hR]; show (0) + 1 ≤ 5 * ef + 5; omega, by rw [← hR]; show 8 + (3 + 11) + (0) ≤ 160 * ef + 200; omega⟩) ⟨fun a U g mk q => by obtain ⟨q0, q1, q2, qK, q10, q11, q12⟩ := q; exact ⟨q0, q1, q2, jG.calling g mk a qK, q10, q11, q12⟩, hh_16.recv (C := RX10) (T := TX10) (N := 11) hB12 rfl (by decide) hg_r0 hK, fun U hU hW => ⟨rfl, hU, hh_16.2.1, hG.step hW hU hh_16.1, hg_r0, (hh_16.2.2.1.sub (L1 := [(r0, 12, 3, .int tk), (r0, 12, 4, .int z_15)]) [1, 0] rfl), by first | omega | (refine ⟨?_, ?_, ?_, ?_, ?_⟩ <;> (first | omega | rfl | assumption | decide | exact Or.inl rfl | exact Or.inr rfl | (simp only; omega)))⟩⟩ rfl rfl hl.1 rfl (lv_room (Nat.le_of_ble_eq_true rfl)) dX10_isOne_180 ⟨Nat.zero_le _, Nat.zero_le _⟩) hh_16.1 (fun q _ h => h) (fun q h => h) (fun r_20 u_19 t_19 H_19 locs_19 ht_19 hvm_19 hr_20 hb_19 hz_19 hk_19 hS_19 => ?_)
              obtain ⟨qa_19, rfl⟩ : ∃ z, z = u_19 := ⟨_, rfl⟩
              rw [ht_19] at hb_19
              obtain ⟨hb_191, hb_192, hb_193, hb_194, hb_195⟩ := hb_19
              have hh_19 : jSt (dC, dI) B base G0 G0 EX10_isOne s.heap 0 0 [(r0, 12, 4, .int qa_19), (r0, 12, 3, .int tk), (r0, 12, 10, .int nc)] [] [] H_19 locs_19 := ((hh_16.call hb_191 hb_192 hb_193 hb_194 hS_19 rfl (L1 := [(r0, 12, 3, .int tk), (r0, 12, 10, .int nc)]) [1, 2] rfl rfl (M1 := []) [] rfl rfl (I1 := []) [] rfl rfl).more hb_195)
              clear hh_16 ht_19 hvm_19 hz_19 hk_19 hS_19 hb_191 hb_192 hb_193 hb_194 hb_195
              obtain ⟨hr_20b, hr_20p⟩ := hr_20
              obtain ⟨hr_20p_0, hr_20p_1⟩ := hr_20p
              have hr_20' := jb_01 hr_20b
              refine lv_if_eq (tgt := 210) hx hb dX10_isOne_183 (by decide) (fun c_21 => ?_) (fun c_21 => ?_)
              · skip
                have c_21' : r_20.toInt = 0 := jb_eq (rfl) ((by decide)) c_21
                first | (have hr_20p_1q := hr_20p_1.resolve_left (by omega); clear hr_20p_1) | (have hr_20p_1q := hr_20p_1.resolve_right (by omega); clear hr_20p_1) | skip
                refine lv_iconst (v := 0) hx hb dX10_isOne_210 (by decide) ?_
                rw [hQ]
                exact W.zret (v := 0) hx hb hr (jb_nz (Or.inl rfl)) (fun t ht hW => ⟨⟨0, (qa_19, nc), rfl, ⟨(Or.inl rfl), by first | omega | (refine ⟨?_, ?_, ?_, ?_, ?_⟩ <;> (first | omega | rfl | assumption | decide | exact Or.inl rfl | exact Or.inr rfl | (simp only; omega)))⟩, hh_19.rt (M1 := [(r0, 12, 4, .int qa_19), (r0, 12, 10, .int nc)]) [0, 2] rfl ht⟩, by rw [ht]; try exact hh_19.1.1, fun q h9 hq => by rw [ht]; try exact hh_19.1.2.1 q h9 hq⟩) hh_19.1.2.2 dX10_isOne_211
              · skip
                have c_21' : r_20.toInt ≠ 0 := jb_eq_n (rfl) ((by decide)) c_21
                first | (have hr_20p_1q := hr_20p_1.resolve_left (by omega); clear hr_20p_1) | (have hr_20p_1q := hr_20p_1.resolve_right (by omega); clear hr_20p_1) | skip
                refine lv_aload_n hx hb dX10_isOne_186 rfl (lv_at hl 4 rfl) ?_
                refine lv_iload hx hb dX10_isOne_187 (lv_at hl 0 rfl) ?_
                refine va_calli (A0 := jA base) (H0 := s.heap) (va_runV (As := [.int z_14]) (rest := []) ⟨hx, hb, hml, hown, hts⟩ (uX10_addNode l dC dI ca base B hB hAp hB12 hB101 G0 H_19 r0 z_14 nc) (cwV 1 hts (jgV (jWr_80 _ (List.mem_of_getElem? (i := 20) rfl)) (jWr_80 _ (List.mem_of_getElem? (i := 21) rfl)) (jWr_80 _ (List.mem_of_getElem? (i := 22) rfl)) (jWr_4 _ (List.mem_of_getElem? (i := 14) rfl)) (jWr_80 _ (List.mem_of_getElem? (i := 23) rfl))) rfl rfl rfl (by decide +kernel) ⟨by rw [← hR]; show (0) + 1 ≤ 5 * ef + 5; omega, by rw [← hR]; show 8 + (2 + 11) + (0) ≤ 160 * ef + 200; omega⟩) ⟨fun a U g mk q => by obtain ⟨q0, q1, q2, qK, q10, q11, q12⟩ := q; exact ⟨q0, q1, q2, jG.calling g mk a qK, q10, q11, q12⟩, hh_19.recv (C := RX10) (T := TX10) (N := 11) hB12 rfl (by decide) hg_r0 hK, fun U hU hW => ⟨rfl, hU, hh_19.2.1, hG.step hW hU hh_19.1, hg_r0, (hh_19.2.2.1.sub (L1 := [(r0, 12, 10, .int nc)]) [2] rfl), by first | omega | (refine ⟨?_, ?_⟩ <;> (first | omega | rfl | assumption | decide | exact Or.inl rfl | exact Or.inr rfl | (simp only; omega)))⟩⟩ rfl rfl hl.1 rfl (lv_room (Nat.le_of_ble_eq_true rfl)) dX10_isOne_189 ⟨Nat.zero_le _, Nat.zero_le _⟩) hh_19.1 (fun q _ h => h) (fun q h => h) (fun r_23 u_22 t_22 H_22 locs_22 ht_22 hvm_22 hr_23 hb_22 hz_22 hk_22 hS_22 => ?_)
                obtain ⟨qc_22, rfl⟩ : ∃ z, z = u_22 := ⟨_, rfl⟩
                rw [ht_22] at hb_22
                obtain ⟨hb_221, hb_222, hb_223, hb_224, hb_225⟩ := hb_22
                have hh_22 : jSt (dC, dI) B base G0 G0 EX10_isOne s.heap 0 0 [(r0, 12, 10, .int qc_22), (r0, 12, 4, .int qa_19), (r0, 12, 3, .int tk)] [] [] H_22 locs_22 := ((hh_19.call hb_221 hb_222 hb_223 hb_224 hS_22 rfl (L1 := [(r0, 12, 4, .int qa_19), (r0, 12, 3, .int tk)]) [0, 1] rfl rfl (M1 := []) [] rfl rfl (I1 := []) [] rfl rfl).more hb_225)
                clear hh_19 ht_22 hvm_22 hz_22 hk_22 hS_22 hb_221 hb_222 hb_223 hb_224 hb_225
                obtain ⟨hr_23b, hr_23p⟩ := hr_23
                obtain ⟨hr_23p_0, hr_23p_1⟩ := hr_23p
                have hr_23' := jb_01 hr_23b
                refine lv_if_eq (tgt := 210) hx hb dX10_isOne_192 (by decide) (fun c_24 => ?_) (fun c_24 => ?_)
                · skip
                  have c_24' : r_23.toInt = 0 := jb_eq (rfl) ((by decide)) c_24
                  first | (have hr_23p_0q := hr_23p_0.resolve_left (by omega); clear hr_23p_0) | (have hr_23p_0q := hr_23p_0.resolve_right (by omega); clear hr_23p_0) | skip
                  refine lv_iconst (v := 0) hx hb dX10_isOne_210 (by decide) ?_
                  rw [hQ]
                  exact W.zret (v := 0) hx hb hr (jb_nz (Or.inl rfl)) (fun t ht hW => ⟨⟨0, (qa_19, qc_22), rfl, ⟨(Or.inl rfl), by first | omega | (refine ⟨?_, ?_, ?_, ?_, ?_⟩ <;> (first | omega | rfl | assumption | decide | exact Or.inl rfl | exact Or.inr rfl | (simp only; omega)))⟩, hh_22.rt (M1 := [(r0, 12, 4, .int qa_19), (r0, 12, 10, .int qc_22)]) [1, 0] rfl ht⟩, by rw [ht]; try exact hh_22.1.1, fun q h9 hq => by rw [ht]; try exact hh_22.1.2.1 q h9 hq⟩) hh_22.1.2.2 dX10_isOne_211
                · skip
                  have c_24' : r_23.toInt ≠ 0 := jb_eq_n (rfl) ((by decide)) c_24
                  first | (have hr_23p_0q := hr_23p_0.resolve_left (by omega); clear hr_23p_0) | (have hr_23p_0q := hr_23p_0.resolve_right (by omega); clear hr_23p_0) | skip
                  refine lv_aload_n hx hb dX10_isOne_195 rfl (lv_at hl 4 rfl) ?_
                  refine lv_iconst (v := 0) hx hb dX10_isOne_196 (by decide) ?_
                  refine lv_iload_n hx hb dX10_isOne_197 rfl (lv_at hl 5 rfl) ?_
                  refine lv_iconst (v := 1) hx hb dX10_isOne_198 (by decide) ?_
                  refine lv_iadd hx hb dX10_isOne_199 ?_
                  refine lv_topi (fun z_25 ez_25 => ?_)
                  have hz_25 : z_25.toInt = a1.toInt + 1 := by rw [ez_25]; exact jb_iadd2 (rfl) ((by decide)) (by omega)
                  refine va_calli (A0 := jA base) (H0 := s.heap) (va_runV (As := [.int 0, .int z_25]) (rest := []) ⟨hx, hb, hml, hown, hts⟩ (ihC (ef - 1) (by omega) G0 H_22 r0 0 z_25 tk qa_19 qc_22) (cwV 2 hts (jgV (jWr_80 _ (List.mem_of_getElem? (i := 6) rfl)) (jWr_80 _ (List.mem_of_getElem? (i := 7) rfl)) (jWr_80 _ (List.mem_of_getElem? (i := 8) rfl)) (jWr_4 _ (List.mem_of_getElem? (i := 14) rfl)) (jWr_80 _ (List.mem_of_getElem? (i := 9) rfl))) rfl rfl rfl (by decide +kernel) ⟨by rw [← hR]; show (5 * (ef - 1) + 6 + 2) + 1 ≤ 5 * ef + 5; omega, by rw [← hR]; show 8 + (6 + 11) + (160 * (ef - 1) + 230 + 30 * 2) ≤ 160 * ef + 200; omega⟩) ⟨fun a U g mk q => by obtain ⟨q0, q1, q2, qK, q10, q11, q12⟩ := q; exact ⟨q0, q1, q2, jG.calling g mk a qK, q10, q11, q12⟩, hh_22.recv (C := RX10) (T := TX10) (N := 11) hB12 rfl (by decide) hg_r0 hK, fun U hU hW => ⟨rfl, hU, hh_22.2.1, hG.step hW hU hh_22.1, hg_r0, (hh_22.2.2.1.sub (L1 := [(r0, 12, 3, .int tk), (r0, 12, 4, .int qa_19), (r0, 12, 10, .int qc_22)]) [2, 1, 0] rfl), by first | omega | (refine ⟨?_, ?_, ?_, ?_, ?_, ?_, ?_, ?_, ?_, ?_, ?_⟩ <;> (first | omega | rfl | assumption | decide | exact Or.inl rfl | exact Or.inr rfl | (simp only; omega)))⟩⟩ rfl rfl hl.1 rfl (lv_room (Nat.le_of_ble_eq_true rfl)) dX10_isOne_200 ⟨Nat.zero_le _, Nat.zero_le _⟩) hh_22.1 (fun q _ h => h) (fun q h => h) (fun r_27 u_26 t_26 H_26 locs_26 ht_26 hvm_26 hr_27 hb_26 hz_26 hk_26 hS_26 => ?_)
                  obtain ⟨qa_26, qc_26⟩ := u_26
                  rw [ht_26] at hb_26
                  obtain ⟨hb_261, hb_262, hb_263, hb_264, hb_265⟩ := hb_26
                  have hh_26 : jSt (dC, dI) B base G0 G0 EX10_isOne s.heap 0 0 [(r0, 12, 4, .int qa_26), (r0, 12, 10, .int qc_26), (r0, 12, 3, .int tk)] [] [] H_26 locs_26 := ((hh_22.call hb_261 hb_262 hb_263 hb_264 hS_26 rfl (L1 := [(r0, 12, 3, .int tk)]) [2] rfl rfl (M1 := []) [] rfl rfl (I1 := []) [] rfl rfl).more hb_265)
                  clear hh_22 ht_26 hvm_26 hz_26 hk_26 hS_26 hb_261 hb_262 hb_263 hb_264 hb_265
                  try simp only at hr_27
                  obtain ⟨hr_27b, hr_27p⟩ := hr_27
                  obtain ⟨hr_27p_0, hr_27p_1, hr_27p_2, hr_27p_3, hr_27p_4⟩ := hr_27p
                  have hr_27' := jb_01 hr_27b
                  refine lv_if_eq (tgt := 210) hx hb dX10_isOne_203 (by decide) (fun c_28 => ?_) (fun c_28 => ?_)
                  · skip
                    have c_28' : r_27.toInt = 0 := jb_eq (rfl) ((by decide)) c_28
                    first | (have hr_27p_4q := hr_27p_4.resolve_left (by omega); clear hr_27p_4) | (have hr_27p_4q := hr_27p_4.resolve_right (by omega); clear hr_27p_4) | skip
                    refine lv_iconst (v := 0) hx hb dX10_isOne_210 (by decide) ?_
                    rw [hQ]
                    exact W.zret (v := 0) hx hb hr (jb_nz (Or.inl rfl)) (fun t ht hW => ⟨⟨0, (qa_26, qc_26), rfl, ⟨(Or.inl rfl), by first | omega | (refine ⟨?_, ?_, ?_, ?_, ?_⟩ <;> (first | omega | rfl | assumption | decide | exact Or.inl rfl | exact Or.inr rfl | (simp only; omega)))⟩, hh_26.rt (M1 := [(r0, 12, 4, .int qa_26), (r0, 12, 10, .int qc_26)]) [0, 1] rfl ht⟩, by rw [ht]; try exact hh_26.1.1, fun q h9 hq => by rw [ht]; try exact hh_26.1.2.1 q h9 hq⟩) hh_26.1.2.2 dX10_isOne_211
                  · skip
                    have c_28' : r_27.toInt ≠ 0 := jb_eq_n (rfl) ((by decide)) c_28
                    first | (have hr_27p_4q := hr_27p_4.resolve_left (by omega); clear hr_27p_4) | (have hr_27p_4q := hr_27p_4.resolve_right (by omega); clear hr_27p_4) | skip
                    refine lv_iconst (v := 1) hx hb dX10_isOne_206 (by decide) ?_
                    refine lv_goto (tgt := 211) hx hb dX10_isOne_207 (by decide) ?_
                    rw [hQ]
                    exact W.zret (v := 1) hx hb hr (jb_nz (Or.inr rfl)) (fun t ht hW => ⟨⟨1, (qa_26, qc_26), rfl, ⟨(Or.inr rfl), by first | omega | (refine ⟨?_, ?_, ?_, ?_, ?_⟩ <;> (first | omega | rfl | assumption | decide | exact Or.inl rfl | exact Or.inr rfl | (simp only; omega)))⟩, hh_26.rt (M1 := [(r0, 12, 4, .int qa_26), (r0, 12, 10, .int qc_26)]) [0, 1] rfl ht⟩, by rw [ht]; try exact hh_26.1.1, fun q h9 hq => by rw [ht]; try exact hh_26.1.2.1 q h9 hq⟩) hh_26.1.2.2 dX10_isOne_211
      · skip
        have c_7' : r_4.toInt ≠ 0 := jb_eq_n (rfl) ((by decide)) c_7
        refine lv_iload_n hx hb dX10_isOne_116 rfl (lv_at hl 0 rfl) ?_
        refine lv_iconst (v := 1) hx hb dX10_isOne_117 (by decide) ?_
        refine lv_icmp_ne (tgt := 212) hx hb dX10_isOne_118 (by decide) (fun c_29 => ?_) (fun c_29 => ?_)
        · skip
          have c_29' : r_4.toInt ≠ 1 := jb_ne (rfl) ((by decide)) c_29
          refine lv_iload_n hx hb dX10_isOne_212 rfl (lv_at hl 0 rfl) ?_
          refine lv_iconst (v := 2) hx hb dX10_isOne_213 (by decide) ?_
          refine lv_icmp_ne (tgt := 233) hx hb dX10_isOne_214 (by decide) (fun c_30 => ?_) (fun c_30 => ?_)
          · skip
            have c_30' : r_4.toInt ≠ 2 := jb_ne (rfl) ((by decide)) c_30
            refine lv_aload_n hx hb dX10_isOne_233 rfl (lv_at hl 2 rfl) ?_
            refine j7_read hx hb hown hK (C := RX10) (T := TX10) (N := 11) rfl hly_12_10 hlk_89 (hh_3.at 2 rfl) dX10_isOne_234 ?_
            refine lv_istore (lv' := [(4, .int nc), (3, .int r_4), (2, .int r_2), (0, .ref r0), (1, .int a1)]) hx hb dX10_isOne_237 hl (by decide) rfl (fun ls hl => ?_)
            refine lv_aload_n hx hb dX10_isOne_239 rfl (lv_at hl 3 rfl) ?_
            refine lv_bipush (v := 7) hx hb dX10_isOne_240 (by decide) ?_
            refine lv_iload_n hx hb dX10_isOne_242 rfl (lv_at hl 4 rfl) ?_
            refine va_calli (A0 := jA base) (H0 := s.heap) (va_runV (As := [.int 7, .int a1]) (rest := []) ⟨hx, hb, hml, hown, hts⟩ (aX10_isTerm l dC dI ca base B hB hAp hB12 hB101 ef G0 H_3 r0 7 a1 tk pa nc) (cwV 2 hts (jgV (jWr_81 _ (List.mem_of_getElem? (i := 0) rfl)) (jWr_81 _ (List.mem_of_getElem? (i := 1) rfl)) (jWr_81 _ (List.mem_of_getElem? (i := 2) rfl)) (jWr_4 _ (List.mem_of_getElem? (i := 14) rfl)) (jWr_81 _ (List.mem_of_getElem? (i := 3) rfl))) rfl rfl rfl (by decide +kernel) ⟨by rw [← hR]; show (ef + 3) + 1 ≤ 5 * ef + 5; omega, by rw [← hR]; show 8 + (6 + 11) + (60 * ef + 120) ≤ 160 * ef + 200; omega⟩) ⟨fun a U g mk q => by obtain ⟨q0, q1, q2, qK, q10, q11, q12⟩ := q; exact ⟨q0, q1, q2, jG.calling g mk a qK, q10, q11, q12⟩, hh_3.recv (C := RX10) (T := TX10) (N := 11) hB12 rfl (by decide) hg_r0 hK, fun U hU hW => ⟨rfl, hU, hh_3.2.1, hG.step hW hU hh_3.1, hg_r0, (hh_3.2.2.1.sub (L1 := [(r0, 12, 3, .int tk), (r0, 12, 4, .int pa), (r0, 12, 10, .int nc)]) [0, 1, 2] rfl), by first | omega | (refine ⟨?_, ?_, ?_, ?_, ?_, ?_, ?_, ?_, ?_⟩ <;> (first | omega | rfl | assumption | decide | exact Or.inl rfl | exact Or.inr rfl | (simp only; omega)))⟩⟩ rfl rfl hl.1 rfl (lv_room (Nat.le_of_ble_eq_true rfl)) dX10_isOne_243 ⟨Nat.zero_le _, Nat.zero_le _⟩) hh_3.1 (fun q _ h => h) (fun q h => h) (fun r_32 u_31 t_31 H_31 locs_31 ht_31 hvm_31 hr_32 hb_31 hz_31 hk_31 hS_31 => ?_)
            obtain ⟨qa_31, qc_31⟩ := u_31
            rw [ht_31] at hb_31
            obtain ⟨hb_311, hb_312, hb_313, hb_314, hb_315⟩ := hb_31
            have hh_31 : jSt (dC, dI) B base G0 G0 EX10_isOne s.heap 0 0 [(r0, 12, 4, .int qa_31), (r0, 12, 10, .int qc_31), (r0, 12, 3, .int tk)] [] [] H_31 locs_31 := ((hh_3.call hb_311 hb_312 hb_313 hb_314 hS_31 rfl (L1 := [(r0, 12, 3, .int tk)]) [0] rfl rfl (M1 := []) [] rfl rfl (I1 := []) [] rfl rfl).more hb_315)
            clear hh_3 ht_31 hvm_31 hz_31 hk_31 hS_31 hb_311 hb_312 hb_313 hb_314 hb_315
            try simp only at hr_32
            obtain ⟨hr_32b, hr_32p⟩ := hr_32
            obtain ⟨hr_32p_0, hr_32p_1, hr_32p_2, hr_32p_3, hr_32p_4⟩ := hr_32p
            have hr_32' := jb_01 hr_32b
            refine lv_if_ne (tgt := 251) hx hb dX10_isOne_246 (by decide) (fun c_33 => ?_) (fun c_33 => ?_)
            · skip
              have c_33' : r_32.toInt ≠ 0 := jb_ne (rfl) ((by decide)) c_33
              first | (have hr_32p_4q := hr_32p_4.resolve_left (by omega); clear hr_32p_4) | (have hr_32p_4q := hr_32p_4.resolve_right (by omega); clear hr_32p_4) | skip
              refine lv_aload_n hx hb dX10_isOne_251 rfl (lv_at hl 3 rfl) ?_
              refine va_calli (A0 := jA base) (H0 := s.heap) (va_runV (As := []) (rest := []) ⟨hx, hb, hml, hown, hts⟩ (uX10_peek l dC dI ca base B hB hAp hB12 hB101 G0 H_31 r0 tk qa_31) (cwV 0 hts (jgV (jWr_79 _ (List.mem_of_getElem? (i := 18) rfl)) (jWr_79 _ (List.mem_of_getElem? (i := 19) rfl)) (jWr_79 _ (List.mem_of_getElem? (i := 20) rfl)) (jWr_4 _ (List.mem_of_getElem? (i := 14) rfl)) (jWr_79 _ (List.mem_of_getElem? (i := 21) rfl))) rfl rfl rfl (by decide +kernel) ⟨by rw [← hR]; show (0) + 1 ≤ 5 * ef + 5; omega, by rw [← hR]; show 8 + (1 + 11) + (0) ≤ 160 * ef + 200; omega⟩) ⟨fun a U g mk q => by obtain ⟨q0, q1, q2, qK, q10, q11, q12⟩ := q; exact ⟨q0, q1, q2, jG.calling g mk a qK, q10, q11, q12⟩, hh_31.recv (C := RX10) (T := TX10) (N := 11) hB12 rfl (by decide) hg_r0 hK, fun U hU hW => ⟨rfl, hU, hh_31.2.1, hG.step hW hU hh_31.1, hg_r0, (hh_31.2.2.1.sub (L1 := [(r0, 12, 3, .int tk), (r0, 12, 4, .int qa_31)]) [2, 0] rfl), by first | omega | (refine ⟨?_, ?_, ?_, ?_⟩ <;> (first | omega | rfl | assumption | decide | exact Or.inl rfl | exact Or.inr rfl | (simp only; omega)))⟩⟩ rfl rfl hl.1 rfl (lv_room (Nat.le_of_ble_eq_true rfl)) dX10_isOne_252 ⟨Nat.zero_le _, Nat.zero_le _⟩) hh_31.1 (fun q _ h => h) (fun q h => h) (fun r_35 u_34 t_34 H_34 locs_34 ht_34 hvm_34 hr_35 hb_34 hz_34 hk_34 hS_34 => ?_)
              rw [ht_34] at hb_34
              obtain ⟨hb_341, hb_342, hb_343, hb_344, hb_345⟩ := hb_34
              have hh_34 : jSt (dC, dI) B base G0 G0 EX10_isOne s.heap 0 0 [(r0, 12, 4, .int qa_31), (r0, 12, 10, .int qc_31), (r0, 12, 3, .int tk)] [] [] H_34 locs_34 := ((hh_31.call hb_341 hb_342 hb_343 hb_344 hS_34 rfl (L1 := [(r0, 12, 4, .int qa_31), (r0, 12, 10, .int qc_31), (r0, 12, 3, .int tk)]) [0, 1, 2] rfl rfl (M1 := []) [] rfl rfl (I1 := []) [] rfl rfl).more hb_345)
              clear hh_31 ht_34 hvm_34 hz_34 hk_34 hS_34 hb_341 hb_342 hb_343 hb_344 hb_345
              refine lv_bipush (v := 61) hx hb dX10_isOne_255 (by decide) ?_
              refine lv_icmp_eq (tgt := 262) hx hb dX10_isOne_257 (by decide) (fun c_36 => ?_) (fun c_36 => ?_)
              · skip
                have c_36' : r_35.toInt = 61 := jb_eq (rfl) ((by decide)) c_36
                first | (have hr_35q := hr_35.resolve_left (by omega); clear hr_35) | (have hr_35q := hr_35.resolve_right (by omega); clear hr_35) | try clear hr_35
                refine lv_aload_n hx hb dX10_isOne_262 rfl (lv_at hl 3 rfl) ?_
                refine lv_dup hx hb dX10_isOne_263 rfl ?_
                refine j7_read hx hb hown hK (C := RX10) (T := TX10) (N := 11) rfl hly_12_4 hlk_83 (hh_34.at 0 rfl) dX10_isOne_264 ?_
                refine lv_iconst (v := 1) hx hb dX10_isOne_267 (by decide) ?_
                refine lv_iadd hx hb dX10_isOne_268 ?_
                refine lv_topi (fun z_37 ez_37 => ?_)
                have hz_37 : z_37.toInt = qa_31.toInt + 1 := by rw [ez_37]; exact jb_iadd2 (rfl) ((by decide)) (by omega)
                refine j7_put hx hb hown hK hh_34 hB hAp hB12 (C := RX10) (T := TX10) (N := 11) rfl (by decide) hg_r0 (i := 4) (by decide) hly_12_4 rfl hlk_83 rfl (ty := .int) (v := .int z_37) (by decide +kernel) rfl rfl (⟨_, rfl, by omega, by omega⟩) rfl (L1 := [(r0, 12, 10, .int qc_31), (r0, 12, 3, .int tk)]) [1, 2] rfl rfl rfl dX10_isOne_269 (fun H_38 locs_38 hh_38 => ?_)
                clear hh_34
                refine lv_aload_n hx hb dX10_isOne_272 rfl (lv_at hl 3 rfl) ?_
                obtain ⟨v_39, hv_39, hh_40⟩ := hh_38.pin (C := RX10) (T := TX10) (N := 11) hB12 rfl (by decide) hg_r0 (i := 9) (by decide) rfl
                clear hh_38
                obtain ⟨nodes_41, rfl, hg_nodes_41⟩ := hv_39
                refine j7_read hx hb hown hK (C := RX10) (T := TX10) (N := 11) rfl hly_12_9 hlk_21 (hh_40.at 0 rfl) dX10_isOne_273 ?_
                refine lv_iload hx hb dX10_isOne_276 (lv_at hl 0 rfl) ?_
                refine lv_dup2_11 hx hb dX10_isOne_278 rfl rfl ?_
                refine j7_iald hx hb hK hh_40 hB101 1 rfl (by decide) hg_nodes_41 (x := nc.toInt) (rfl) (by omega) dX10_isOne_279 (fun z_42 (hz_42 : True) => ?_)
                refine lv_iconst (v := 1) hx hb dX10_isOne_280 (by decide) ?_
                refine lv_iadd hx hb dX10_isOne_281 ?_
                refine lv_topi (fun z_43 ez_43 => ?_)
                refine j7_iast hx hb hK hh_40 hB hB101 1 rfl (by decide) (by decide) rfl rfl rfl hg_nodes_41 (x := nc.toInt) (rfl) (by omega) (trivial) dX10_isOne_282 (fun H_44 locs_44 hh_44 => ?_)
                clear hh_40
                refine lv_aload_n hx hb dX10_isOne_283 rfl (lv_at hl 3 rfl) ?_
                refine lv_iload hx hb dX10_isOne_284 (lv_at hl 0 rfl) ?_
                refine lv_iconst (v := 4) hx hb dX10_isOne_286 (by decide) ?_
                refine va_calli (A0 := jA base) (H0 := s.heap) (va_runV (As := [.int nc, .int 4]) (rest := []) ⟨hx, hb, hml, hown, hts⟩ (uX10_insertNode l dC dI ca base B hB hAp hB12 hB101 G0 H_44 r0 nc 4 qc_31) (cwV 2 hts (jgV (jWr_80 _ (List.mem_of_getElem? (i := 15) rfl)) (jWr_80 _ (List.mem_of_getElem? (i := 16) rfl)) (jWr_80 _ (List.mem_of_getElem? (i := 17) rfl)) (jWr_4 _ (List.mem_of_getElem? (i := 14) rfl)) (jWr_80 _ (List.mem_of_getElem? (i := 18) rfl))) rfl rfl rfl (by decide +kernel) ⟨by rw [← hR]; show (0) + 1 ≤ 5 * ef + 5; omega, by rw [← hR]; show 8 + (4 + 11) + (0) ≤ 160 * ef + 200; omega⟩) ⟨fun a U g mk q => by obtain ⟨q0, q1, q2, qK, q10, q11, q12⟩ := q; exact ⟨q0, q1, q2, jG.calling g mk a qK, q10, q11, q12⟩, hh_44.recv (C := RX10) (T := TX10) (N := 11) hB12 rfl (by decide) hg_r0 hK, fun U hU hW => ⟨rfl, hU, hh_44.2.1, hG.step hW hU hh_44.1, hg_r0, (hh_44.2.2.1.sub (L1 := [(r0, 12, 10, .int qc_31)]) [2] rfl), by first | omega | (refine ⟨?_, ?_⟩ <;> (first | omega | rfl | assumption | decide | exact Or.inl rfl | exact Or.inr rfl | (simp only; omega)))⟩⟩ rfl rfl hl.1 rfl (lv_room (Nat.le_of_ble_eq_true rfl)) dX10_isOne_287 ⟨Nat.zero_le _, Nat.zero_le _⟩) hh_44.1 (fun q _ h => h) (fun q h => h) (fun r_46 u_45 t_45 H_45 locs_45 ht_45 hvm_45 hr_46 hb_45 hz_45 hk_45 hS_45 => ?_)
                obtain ⟨qc_45, rfl⟩ : ∃ z, z = u_45 := ⟨_, rfl⟩
                rw [ht_45] at hb_45
                obtain ⟨hb_451, hb_452, hb_453, hb_454, hb_455⟩ := hb_45
                have hh_45 : jSt (dC, dI) B base G0 G0 EX10_isOne s.heap 0 0 [(r0, 12, 10, .int qc_45), (r0, 12, 9, .ref nodes_41), (r0, 12, 4, .int z_37), (r0, 12, 3, .int tk)] [] [] H_45 locs_45 := ((hh_44.call hb_451 hb_452 hb_453 hb_454 hS_45 rfl (L1 := [(r0, 12, 9, .ref nodes_41), (r0, 12, 4, .int z_37), (r0, 12, 3, .int tk)]) [0, 1, 3] rfl rfl (M1 := []) [] rfl rfl (I1 := []) [] rfl rfl).more hb_455)
                clear hh_44 ht_45 hvm_45 hz_45 hk_45 hS_45 hb_451 hb_452 hb_453 hb_454 hb_455
                obtain ⟨hr_46b, hr_46p⟩ := hr_46
                obtain ⟨hr_46p_0, hr_46p_1⟩ := hr_46p
                have hr_46' := jb_01 hr_46b
                refine lv_if_eq (tgt := 307) hx hb dX10_isOne_290 (by decide) (fun c_47 => ?_) (fun c_47 => ?_)
                · skip
                  have c_47' : r_46.toInt = 0 := jb_eq (rfl) ((by decide)) c_47
                  first | (have hr_46p_0q := hr_46p_0.resolve_left (by omega); clear hr_46p_0) | (have hr_46p_0q := hr_46p_0.resolve_right (by omega); clear hr_46p_0) | skip
                  refine lv_iconst (v := 0) hx hb dX10_isOne_307 (by decide) ?_
                  rw [hQ]
                  exact W.zret (v := 0) hx hb hr (jb_nz (Or.inl rfl)) (fun t ht hW => ⟨⟨0, (z_37, qc_45), rfl, ⟨(Or.inl rfl), by first | omega | (refine ⟨?_, ?_, ?_, ?_, ?_⟩ <;> (first | omega | rfl | assumption | decide | exact Or.inl rfl | exact Or.inr rfl | (simp only; omega)))⟩, hh_45.rt (M1 := [(r0, 12, 4, .int z_37), (r0, 12, 10, .int qc_45)]) [2, 0] rfl ht⟩, by rw [ht]; try exact hh_45.1.1, fun q h9 hq => by rw [ht]; try exact hh_45.1.2.1 q h9 hq⟩) hh_45.1.2.2 dX10_isOne_308
                · skip
                  have c_47' : r_46.toInt ≠ 0 := jb_eq_n (rfl) ((by decide)) c_47
                  first | (have hr_46p_0q := hr_46p_0.resolve_left (by omega); clear hr_46p_0) | (have hr_46p_0q := hr_46p_0.resolve_right (by omega); clear hr_46p_0) | skip
                  refine lv_aload_n hx hb dX10_isOne_293 rfl (lv_at hl 3 rfl) ?_
                  refine lv_bipush (v := 8) hx hb dX10_isOne_294 (by decide) ?_
                  refine lv_iload_n hx hb dX10_isOne_296 rfl (lv_at hl 4 rfl) ?_
                  refine va_calli (A0 := jA base) (H0 := s.heap) (va_runV (As := [.int 8, .int a1]) (rest := []) ⟨hx, hb, hml, hown, hts⟩ (aX10_isTerm l dC dI ca base B hB hAp hB12 hB101 ef G0 H_45 r0 8 a1 tk z_37 qc_45) (cwV 2 hts (jgV (jWr_81 _ (List.mem_of_getElem? (i := 0) rfl)) (jWr_81 _ (List.mem_of_getElem? (i := 1) rfl)) (jWr_81 _ (List.mem_of_getElem? (i := 2) rfl)) (jWr_4 _ (List.mem_of_getElem? (i := 14) rfl)) (jWr_81 _ (List.mem_of_getElem? (i := 3) rfl))) rfl rfl rfl (by decide +kernel) ⟨by rw [← hR]; show (ef + 3) + 1 ≤ 5 * ef + 5; omega, by rw [← hR]; show 8 + (6 + 11) + (60 * ef + 120) ≤ 160 * ef + 200; omega⟩) ⟨fun a U g mk q => by obtain ⟨q0, q1, q2, qK, q10, q11, q12⟩ := q; exact ⟨q0, q1, q2, jG.calling g mk a qK, q10, q11, q12⟩, hh_45.recv (C := RX10) (T := TX10) (N := 11) hB12 rfl (by decide) hg_r0 hK, fun U hU hW => ⟨rfl, hU, hh_45.2.1, hG.step hW hU hh_45.1, hg_r0, (hh_45.2.2.1.sub (L1 := [(r0, 12, 3, .int tk), (r0, 12, 4, .int z_37), (r0, 12, 10, .int qc_45)]) [3, 2, 0] rfl), by first | omega | (refine ⟨?_, ?_, ?_, ?_, ?_, ?_, ?_, ?_, ?_⟩ <;> (first | omega | rfl | assumption | decide | exact Or.inl rfl | exact Or.inr rfl | (simp only; omega)))⟩⟩ rfl rfl hl.1 rfl (lv_room (Nat.le_of_ble_eq_true rfl)) dX10_isOne_297 ⟨Nat.zero_le _, Nat.zero_le _⟩) hh_45.1 (fun q _ h => h) (fun q h => h) (fun r_49 u_48 t_48 H_48 locs_48 ht_48 hvm_48 hr_49 hb_48 hz_48 hk_48 hS_48 => ?_)
                  obtain ⟨qa_48, qc_48⟩ := u_48
                  rw [ht_48] at hb_48
                  obtain ⟨hb_481, hb_482, hb_483, hb_484, hb_485⟩ := hb_48
                  have hh_48 : jSt (dC, dI) B base G0 G0 EX10_isOne s.heap 0 0 [(r0, 12, 4, .int qa_48), (r0, 12, 10, .int qc_48), (r0, 12, 9, .ref nodes_41), (r0, 12, 3, .int tk)] [] [] H_48 locs_48 := ((hh_45.call hb_481 hb_482 hb_483 hb_484 hS_48 rfl (L1 := [(r0, 12, 9, .ref nodes_41), (r0, 12, 3, .int tk)]) [1, 3] rfl rfl (M1 := []) [] rfl rfl (I1 := []) [] rfl rfl).more hb_485)
                  clear hh_45 ht_48 hvm_48 hz_48 hk_48 hS_48 hb_481 hb_482 hb_483 hb_484 hb_485
                  try simp only at hr_49
                  obtain ⟨hr_49b, hr_49p⟩ := hr_49
                  obtain ⟨hr_49p_0, hr_49p_1, hr_49p_2, hr_49p_3, hr_49p_4⟩ := hr_49p
                  have hr_49' := jb_01 hr_49b
                  refine lv_if_eq (tgt := 307) hx hb dX10_isOne_300 (by decide) (fun c_50 => ?_) (fun c_50 => ?_)
                  · skip
                    have c_50' : r_49.toInt = 0 := jb_eq (rfl) ((by decide)) c_50
                    first | (have hr_32p_4q := hr_32p_4.resolve_left (by omega); clear hr_32p_4) | (have hr_32p_4q := hr_32p_4.resolve_right (by omega); clear hr_32p_4) | try clear hr_32p_4
                    first | (have hr_49p_4q := hr_49p_4.resolve_left (by omega); clear hr_49p_4) | (have hr_49p_4q := hr_49p_4.resolve_right (by omega); clear hr_49p_4) | skip
                    refine lv_iconst (v := 0) hx hb dX10_isOne_307 (by decide) ?_
                    rw [hQ]
                    exact W.zret (v := 0) hx hb hr (jb_nz (Or.inl rfl)) (fun t ht hW => ⟨⟨0, (qa_48, qc_48), rfl, ⟨(Or.inl rfl), by first | omega | (refine ⟨?_, ?_, ?_, ?_, ?_⟩ <;> (first | omega | rfl | assumption | decide | exact Or.inl rfl | exact Or.inr rfl | (simp only; omega)))⟩, hh_48.rt (M1 := [(r0, 12, 4, .int qa_48), (r0, 12, 10, .int qc_48)]) [0, 1] rfl ht⟩, by rw [ht]; try exact hh_48.1.1, fun q h9 hq => by rw [ht]; try exact hh_48.1.2.1 q h9 hq⟩) hh_48.1.2.2 dX10_isOne_308
                  · skip
                    have c_50' : r_49.toInt ≠ 0 := jb_eq_n (rfl) ((by decide)) c_50
                    first | (have hr_32p_4q := hr_32p_4.resolve_left (by omega); clear hr_32p_4) | (have hr_32p_4q := hr_32p_4.resolve_right (by omega); clear hr_32p_4) | try clear hr_32p_4
                    first | (have hr_49p_4q := hr_49p_4.resolve_left (by omega); clear hr_49p_4) | (have hr_49p_4q := hr_49p_4.resolve_right (by omega); clear hr_49p_4) | skip
                    refine lv_iconst (v := 1) hx hb dX10_isOne_303 (by decide) ?_
                    refine lv_goto (tgt := 308) hx hb dX10_isOne_304 (by decide) ?_
                    rw [hQ]
                    exact W.zret (v := 1) hx hb hr (jb_nz (Or.inr rfl)) (fun t ht hW => ⟨⟨1, (qa_48, qc_48), rfl, ⟨(Or.inr rfl), by first | omega | (refine ⟨?_, ?_, ?_, ?_, ?_⟩ <;> (first | omega | rfl | assumption | decide | exact Or.inl rfl | exact Or.inr rfl | (simp only; omega)))⟩, hh_48.rt (M1 := [(r0, 12, 4, .int qa_48), (r0, 12, 10, .int qc_48)]) [0, 1] rfl ht⟩, by rw [ht]; try exact hh_48.1.1, fun q h9 hq => by rw [ht]; try exact hh_48.1.2.1 q h9 hq⟩) hh_48.1.2.2 dX10_isOne_308
              · skip
                have c_36' : r_35.toInt ≠ 61 := jb_eq_n (rfl) ((by decide)) c_36
                try clear hr_35
                refine lv_iconst (v := 1) hx hb dX10_isOne_260 (by decide) ?_
                rw [hQ]
                exact W.zret (v := 1) hx hb hr (jb_nz (Or.inr rfl)) (fun t ht hW => ⟨⟨1, (qa_31, qc_31), rfl, ⟨(Or.inr rfl), by first | omega | (refine ⟨?_, ?_, ?_, ?_, ?_⟩ <;> (first | omega | rfl | assumption | decide | exact Or.inl rfl | exact Or.inr rfl | (simp only; omega)))⟩, hh_34.rt (M1 := [(r0, 12, 4, .int qa_31), (r0, 12, 10, .int qc_31)]) [0, 1] rfl ht⟩, by rw [ht]; try exact hh_34.1.1, fun q h9 hq => by rw [ht]; try exact hh_34.1.2.1 q h9 hq⟩) hh_34.1.2.2 dX10_isOne_261
            · skip
              have c_33' : r_32.toInt = 0 := jb_ne_n (rfl) ((by decide)) c_33
              first | (have hr_32p_4q := hr_32p_4.resolve_left (by omega); clear hr_32p_4) | (have hr_32p_4q := hr_32p_4.resolve_right (by omega); clear hr_32p_4) | skip
              refine lv_iconst (v := 0) hx hb dX10_isOne_249 (by decide) ?_
              rw [hQ]
              exact W.zret (v := 0) hx hb hr (jb_nz (Or.inl rfl)) (fun t ht hW => ⟨⟨0, (qa_31, qc_31), rfl, ⟨(Or.inl rfl), by first | omega | (refine ⟨?_, ?_, ?_, ?_, ?_⟩ <;> (first | omega | rfl | assumption | decide | exact Or.inl rfl | exact Or.inr rfl | (simp only; omega)))⟩, hh_31.rt (M1 := [(r0, 12, 4, .int qa_31), (r0, 12, 10, .int qc_31)]) [0, 1] rfl ht⟩, by rw [ht]; try exact hh_31.1.1, fun q h9 hq => by rw [ht]; try exact hh_31.1.2.1 q h9 hq⟩) hh_31.1.2.2 dX10_isOne_250
          · skip
            have c_30' : r_4.toInt = 2 := jb_ne_n (rfl) ((by decide)) c_30
            first | (have hr_4q := hr_4.resolve_left (by omega); clear hr_4) | (have hr_4q := hr_4.resolve_right (by omega); clear hr_4) | skip
            refine lv_aload_n hx hb dX10_isOne_217 rfl (lv_at hl 2 rfl) ?_
            refine lv_dup hx hb dX10_isOne_218 rfl ?_
            refine j7_read hx hb hown hK (C := RX10) (T := TX10) (N := 11) rfl hly_12_4 hlk_83 (hh_3.at 1 rfl) dX10_isOne_219 ?_
            refine lv_iconst (v := 1) hx hb dX10_isOne_222 (by decide) ?_
            refine lv_iadd hx hb dX10_isOne_223 ?_
            refine lv_topi (fun z_51 ez_51 => ?_)
            have hz_51 : z_51.toInt = pa.toInt + 1 := by rw [ez_51]; exact jb_iadd2 (rfl) ((by decide)) (by omega)
            refine j7_put hx hb hown hK hh_3 hB hAp hB12 (C := RX10) (T := TX10) (N := 11) rfl (by decide) hg_r0 (i := 4) (by decide) hly_12_4 rfl hlk_83 rfl (ty := .int) (v := .int z_51) (by decide +kernel) rfl rfl (⟨_, rfl, by omega, by omega⟩) rfl (L1 := [(r0, 12, 3, .int tk), (r0, 12, 10, .int nc)]) [0, 2] rfl rfl rfl dX10_isOne_224 (fun H_52 locs_52 hh_52 => ?_)
            clear hh_3
            refine lv_aload_n hx hb dX10_isOne_227 rfl (lv_at hl 2 rfl) ?_
            refine lv_iconst (v := 0) hx hb dX10_isOne_228 (by decide) ?_
            refine va_calli (A0 := jA base) (H0 := s.heap) (va_runV (As := [.int 0]) (rest := []) ⟨hx, hb, hml, hown, hts⟩ (uX10_addNode l dC dI ca base B hB hAp hB12 hB101 G0 H_52 r0 0 nc) (cwV 1 hts (jgV (jWr_80 _ (List.mem_of_getElem? (i := 20) rfl)) (jWr_80 _ (List.mem_of_getElem? (i := 21) rfl)) (jWr_80 _ (List.mem_of_getElem? (i := 22) rfl)) (jWr_4 _ (List.mem_of_getElem? (i := 14) rfl)) (jWr_80 _ (List.mem_of_getElem? (i := 23) rfl))) rfl rfl rfl (by decide +kernel) ⟨by rw [← hR]; show (0) + 1 ≤ 5 * ef + 5; omega, by rw [← hR]; show 8 + (2 + 11) + (0) ≤ 160 * ef + 200; omega⟩) ⟨fun a U g mk q => by obtain ⟨q0, q1, q2, qK, q10, q11, q12⟩ := q; exact ⟨q0, q1, q2, jG.calling g mk a qK, q10, q11, q12⟩, hh_52.recv (C := RX10) (T := TX10) (N := 11) hB12 rfl (by decide) hg_r0 hK, fun U hU hW => ⟨rfl, hU, hh_52.2.1, hG.step hW hU hh_52.1, hg_r0, (hh_52.2.2.1.sub (L1 := [(r0, 12, 10, .int nc)]) [2] rfl), by first | omega | (refine ⟨?_, ?_⟩ <;> (first | omega | rfl | assumption | decide | exact Or.inl rfl | exact Or.inr rfl | (simp only; omega)))⟩⟩ rfl rfl hl.1 rfl (lv_room (Nat.le_of_ble_eq_true rfl)) dX10_isOne_229 ⟨Nat.zero_le _, Nat.zero_le _⟩) hh_52.1 (fun q _ h => h) (fun q h => h) (fun r_54 u_53 t_53 H_53 locs_53 ht_53 hvm_53 hr_54 hb_53 hz_53 hk_53 hS_53 => ?_)
            obtain ⟨qc_53, rfl⟩ : ∃ z, z = u_53 := ⟨_, rfl⟩
            rw [ht_53] at hb_53
            obtain ⟨hb_531, hb_532, hb_533, hb_534, hb_535⟩ := hb_53
            have hh_53 : jSt (dC, dI) B base G0 G0 EX10_isOne s.heap 0 0 [(r0, 12, 10, .int qc_53), (r0, 12, 4, .int z_51), (r0, 12, 3, .int tk)] [] [] H_53 locs_53 := ((hh_52.call hb_531 hb_532 hb_533 hb_534 hS_53 rfl (L1 := [(r0, 12, 4, .int z_51), (r0, 12, 3, .int tk)]) [0, 1] rfl rfl (M1 := []) [] rfl rfl (I1 := []) [] rfl rfl).more hb_535)
            clear hh_52 ht_53 hvm_53 hz_53 hk_53 hS_53 hb_531 hb_532 hb_533 hb_534 hb_535
            obtain ⟨hr_54b, hr_54p⟩ := hr_54
            obtain ⟨hr_54p_0, hr_54p_1⟩ := hr_54p
            have hr_54' := jb_01 hr_54b
            rw [hQ]
            exact W.zret (v := r_54) hx hb hr (jb_nz (hr_54b)) (fun t ht hW => ⟨⟨r_54, (z_51, qc_53), rfl, ⟨(hr_54b), by first | omega | (refine ⟨?_, ?_, ?_, ?_, ?_⟩ <;> (first | omega | rfl | assumption | decide | exact Or.inl rfl | exact Or.inr rfl | (simp only; omega)))⟩, hh_53.rt (M1 := [(r0, 12, 4, .int z_51), (r0, 12, 10, .int qc_53)]) [1, 0] rfl ht⟩, by rw [ht]; try exact hh_53.1.1, fun q h9 hq => by rw [ht]; try exact hh_53.1.2.1 q h9 hq⟩) hh_53.1.2.2 dX10_isOne_232
        · skip
          have c_29' : r_4.toInt = 1 := jb_ne_n (rfl) ((by decide)) c_29
          first | (have hr_4q := hr_4.resolve_left (by omega); clear hr_4) | (have hr_4q := hr_4.resolve_right (by omega); clear hr_4) | skip
          refine lv_aload_n hx hb dX10_isOne_121 rfl (lv_at hl 2 rfl) ?_
          refine lv_dup hx hb dX10_isOne_122 rfl ?_
          refine j7_read hx hb hown hK (C := RX10) (T := TX10) (N := 11) rfl hly_12_4 hlk_83 (hh_3.at 1 rfl) dX10_isOne_123 ?_
          refine lv_iconst (v := 1) hx hb dX10_isOne_126 (by decide) ?_
          refine lv_iadd hx hb dX10_isOne_127 ?_
          refine lv_topi (fun z_55 ez_55 => ?_)
          have hz_55 : z_55.toInt = pa.toInt + 1 := by rw [ez_55]; exact jb_iadd2 (rfl) ((by decide)) (by omega)
          refine j7_put hx hb hown hK hh_3 hB hAp hB12 (C := RX10) (T := TX10) (N := 11) rfl (by decide) hg_r0 (i := 4) (by decide) hly_12_4 rfl hlk_83 rfl (ty := .int) (v := .int z_55) (by decide +kernel) rfl rfl (⟨_, rfl, by omega, by omega⟩) rfl (L1 := [(r0, 12, 3, .int tk), (r0, 12, 10, .int nc)]) [0, 2] rfl rfl rfl dX10_isOne_128 (fun H_56 locs_56 hh_56 => ?_)
          clear hh_3
          refine lv_aload_n hx hb dX10_isOne_131 rfl (lv_at hl 2 rfl) ?_
          refine va_calli (A0 := jA base) (H0 := s.heap) (va_runV (As := []) (rest := []) ⟨hx, hb, hml, hown, hts⟩ (uX10_peekName l dC dI ca base B hB hAp hB12 hB101 G0 H_56 r0 tk z_55) (cwV 0 hts (jgV (jWr_79 _ (List.mem_of_getElem? (i := 14) rfl)) (jWr_79 _ (List.mem_of_getElem? (i := 15) rfl)) (jWr_79 _ (List.mem_of_getElem? (i := 16) rfl)) (jWr_4 _ (List.mem_of_getElem? (i := 14) rfl)) (jWr_79 _ (List.mem_of_getElem? (i := 17) rfl))) rfl rfl rfl (by decide +kernel) ⟨by rw [← hR]; show (1) + 1 ≤ 5 * ef + 5; omega, by rw [← hR]; show 8 + (1 + 11) + (20) ≤ 160 * ef + 200; omega⟩) ⟨fun a U g mk q => by obtain ⟨q0, q1, q2, qK, q10, q11, q12⟩ := q; exact ⟨q0, q1, q2, jG.calling g mk a qK, q10, q11, q12⟩, hh_56.recv (C := RX10) (T := TX10) (N := 11) hB12 rfl (by decide) hg_r0 hK, fun U hU hW => ⟨rfl, hU, hh_56.2.1, hG.step hW hU hh_56.1, hg_r0, (hh_56.2.2.1.sub (L1 := [(r0, 12, 3, .int tk), (r0, 12, 4, .int z_55)]) [1, 0] rfl), by first | omega | (refine ⟨?_, ?_, ?_, ?_⟩ <;> (first | omega | rfl | assumption | decide | exact Or.inl rfl | exact Or.inr rfl | (simp only; omega)))⟩⟩ rfl rfl hl.1 rfl (lv_room (Nat.le_of_ble_eq_true rfl)) dX10_isOne_132 ⟨Nat.zero_le _, Nat.zero_le _⟩) hh_56.1 (fun q _ h => h) (fun q h => h) (fun r_58 u_57 t_57 H_57 locs_57 ht_57 hvm_57 hr_58 hb_57 hz_57 hk_57 hS_57 => ?_)
          rw [ht_57] at hb_57
          obtain ⟨hb_571, hb_572, hb_573, hb_574, hb_575⟩ := hb_57
          have hh_57 : jSt (dC, dI) B base G0 G0 EX10_isOne s.heap 0 0 [(r0, 12, 4, .int z_55), (r0, 12, 3, .int tk), (r0, 12, 10, .int nc)] [] [] H_57 locs_57 := ((hh_56.call hb_571 hb_572 hb_573 hb_574 hS_57 rfl (L1 := [(r0, 12, 4, .int z_55), (r0, 12, 3, .int tk), (r0, 12, 10, .int nc)]) [0, 1, 2] rfl rfl (M1 := []) [] rfl rfl (I1 := []) [] rfl rfl).more hb_575)
          clear hh_56 ht_57 hvm_57 hz_57 hk_57 hS_57 hb_571 hb_572 hb_573 hb_574 hb_575
          refine lv_istore (lv' := [(4, .int r_58), (3, .int r_4), (2, .int r_2), (0, .ref r0), (1, .int a1)]) hx hb dX10_isOne_135 hl (by decide) rfl (fun ls hl => ?_)
          refine lv_iload_n hx hb dX10_isOne_137 rfl (lv_at hl 1 rfl) ?_
          refine lv_if_ne (tgt := 145) hx hb dX10_isOne_138 (by decide) (fun c_59 => ?_) (fun c_59 => ?_)
          · skip
            have c_59' : r_4.toInt ≠ 0 := jb_ne (rfl) ((by decide)) c_59
            refine lv_bipush (v := 6) hx hb dX10_isOne_145 (by decide) ?_
            refine lv_iload hx hb dX10_isOne_147 (lv_at hl 0 rfl) ?_
            refine lv_bipush (v := 15) hx hb dX10_isOne_149 (by decide) ?_
            refine lv_ishl hx hb dX10_isOne_151 ?_
            refine lv_topi (fun z_60 ez_60 => ?_)
            refine lv_ior hx hb dX10_isOne_152 ?_
            refine lv_topi (fun z_61 ez_61 => ?_)
            refine lv_istore (lv' := [(5, .int z_61), (4, .int r_58), (3, .int r_4), (2, .int r_2), (0, .ref r0), (1, .int a1)]) hx hb dX10_isOne_153 hl (by decide) rfl (fun ls hl => ?_)
            refine lv_aload_n hx hb dX10_isOne_155 rfl (lv_at hl 4 rfl) ?_
            refine lv_dup hx hb dX10_isOne_156 rfl ?_
            refine j7_read hx hb hown hK (C := RX10) (T := TX10) (N := 11) rfl hly_12_4 hlk_83 (hh_57.at 0 rfl) dX10_isOne_157 ?_
            refine lv_iconst (v := 1) hx hb dX10_isOne_160 (by decide) ?_
            refine lv_iadd hx hb dX10_isOne_161 ?_
            refine lv_topi (fun z_62 ez_62 => ?_)
            have hz_62 : z_62.toInt = z_55.toInt + 1 := by rw [ez_62]; exact jb_iadd2 (rfl) ((by decide)) (by omega)
            refine j7_put hx hb hown hK hh_57 hB hAp hB12 (C := RX10) (T := TX10) (N := 11) rfl (by decide) hg_r0 (i := 4) (by decide) hly_12_4 rfl hlk_83 rfl (ty := .int) (v := .int z_62) (by decide +kernel) rfl rfl (⟨_, rfl, by omega, by omega⟩) rfl (L1 := [(r0, 12, 3, .int tk), (r0, 12, 10, .int nc)]) [1, 2] rfl rfl rfl dX10_isOne_162 (fun H_63 locs_63 hh_63 => ?_)
            clear hh_57
            refine lv_iload_n hx hb dX10_isOne_165 rfl (lv_at hl 5 rfl) ?_
            refine lv_bipush (v := 12) hx hb dX10_isOne_166 (by decide) ?_
            refine lv_icmp_ge (tgt := 210) hx hb dX10_isOne_168 (by decide) (fun c_64 => ?_) (fun c_64 => ?_)
            · skip
              have c_64' : a1.toInt ≥ 12 := jb_ge (rfl) ((by decide)) c_64
              refine lv_iconst (v := 0) hx hb dX10_isOne_210 (by decide) ?_
              rw [hQ]
              exact W.zret (v := 0) hx hb hr (jb_nz (Or.inl rfl)) (fun t ht hW => ⟨⟨0, (z_62, nc), rfl, ⟨(Or.inl rfl), by first | omega | (refine ⟨?_, ?_, ?_, ?_, ?_⟩ <;> (first | omega | rfl | assumption | decide | exact Or.inl rfl | exact Or.inr rfl | (simp only; omega)))⟩, hh_63.rt (M1 := [(r0, 12, 4, .int z_62), (r0, 12, 10, .int nc)]) [0, 2] rfl ht⟩, by rw [ht]; try exact hh_63.1.1, fun q h9 hq => by rw [ht]; try exact hh_63.1.2.1 q h9 hq⟩) hh_63.1.2.2 dX10_isOne_211
            · skip
              have c_64' : a1.toInt < 12 := jb_ge_n (rfl) ((by decide)) c_64
              refine lv_iload hx hb dX10_isOne_171 (lv_at hl 1 rfl) ?_
              refine lv_iconst (v := 2) hx hb dX10_isOne_173 (by decide) ?_
              refine lv_icmp_le (tgt := 210) hx hb dX10_isOne_174 (by decide) (fun c_65 => ?_) (fun c_65 => ?_)
              · skip
                have c_65' : r_58.toInt ≤ 2 := jb_le (rfl) ((by decide)) c_65
                first | (have hr_58q := hr_58.resolve_left (by omega); clear hr_58) | (have hr_58q := hr_58.resolve_right (by omega); clear hr_58) | skip
                refine lv_iconst (v := 0) hx hb dX10_isOne_210 (by decide) ?_
                rw [hQ]
                exact W.zret (v := 0) hx hb hr (jb_nz (Or.inl rfl)) (fun t ht hW => ⟨⟨0, (z_62, nc), rfl, ⟨(Or.inl rfl), by first | omega | (refine ⟨?_, ?_, ?_, ?_, ?_⟩ <;> (first | omega | rfl | assumption | decide | exact Or.inl rfl | exact Or.inr rfl | (simp only; omega)))⟩, hh_63.rt (M1 := [(r0, 12, 4, .int z_62), (r0, 12, 10, .int nc)]) [0, 2] rfl ht⟩, by rw [ht]; try exact hh_63.1.1, fun q h9 hq => by rw [ht]; try exact hh_63.1.2.1 q h9 hq⟩) hh_63.1.2.2 dX10_isOne_211
              · skip
                have c_65' : r_58.toInt > 2 := jb_le_n (rfl) ((by decide)) c_65
                first | (have hr_58q := hr_58.resolve_left (by omega); clear hr_58) | (have hr_58q := hr_58.resolve_right (by omega); clear hr_58) | skip
                refine lv_aload_n hx hb dX10_isOne_177 rfl (lv_at hl 4 rfl) ?_
                refine lv_bipush (v := 44) hx hb dX10_isOne_178 (by decide) ?_
                refine va_calli (A0 := jA base) (H0 := s.heap) (va_runV (As := [.int 44]) (rest := []) ⟨hx, hb, hml, hown, hts⟩ (uX10_isSign l dC dI ca base B hB hAp hB12 hB101 G0 H_63 r0 44 tk z_62) (cwV 1 hts (jgV (jWr_80 _ (List.mem_of_getElem? (i := 2) rfl)) (jWr_80 _ (List.mem_of_getElem? (i := 3) rfl)) (jWr_80 _ (List.mem_of_getElem? (i := 4) rfl)) (jWr_4 _ (List.mem_of_getElem? (i := 14) rfl)) (jWr_80 _ (List.mem_of_getElem? (i := 5) rfl))) rfl rfl rfl (by decide +kernel) ⟨by rw [← hR]; show (0) + 1 ≤ 5 * ef + 5; omega, by rw [← hR]; show 8 + (3 + 11) + (0) ≤ 160 * ef + 200; omega⟩) ⟨fun a U g mk q => by obtain ⟨q0, q1, q2, qK, q10, q11, q12⟩ := q; exact ⟨q0, q1, q2, jG.calling g mk a qK, q10, q11, q12⟩, hh_63.recv (C := RX10) (T := TX10) (N := 11) hB12 rfl (by decide) hg_r0 hK, fun U hU hW => ⟨rfl, hU, hh_63.2.1, hG.step hW hU hh_63.1, hg_r0, (hh_63.2.2.1.sub (L1 := [(r0, 12, 3, .int tk), (r0, 12, 4, .int z_62)]) [1, 0] rfl), by first | omega | (refine ⟨?_, ?_, ?_, ?_, ?_⟩ <;> (first | omega | rfl | assumption | decide | exact Or.inl rfl | exact Or.inr rfl | (simp only; omega)))⟩⟩ rfl rfl hl.1 rfl (lv_room (Nat.le_of_ble_eq_true rfl)) dX10_isOne_180 ⟨Nat.zero_le _, Nat.zero_le _⟩) hh_63.1 (fun q _ h => h) (fun q h => h) (fun r_67 u_66 t_66 H_66 locs_66 ht_66 hvm_66 hr_67 hb_66 hz_66 hk_66 hS_66 => ?_)
                obtain ⟨qa_66, rfl⟩ : ∃ z, z = u_66 := ⟨_, rfl⟩
                rw [ht_66] at hb_66
                obtain ⟨hb_661, hb_662, hb_663, hb_664, hb_665⟩ := hb_66
                have hh_66 : jSt (dC, dI) B base G0 G0 EX10_isOne s.heap 0 0 [(r0, 12, 4, .int qa_66), (r0, 12, 3, .int tk), (r0, 12, 10, .int nc)] [] [] H_66 locs_66 := ((hh_63.call hb_661 hb_662 hb_663 hb_664 hS_66 rfl (L1 := [(r0, 12, 3, .int tk), (r0, 12, 10, .int nc)]) [1, 2] rfl rfl (M1 := []) [] rfl rfl (I1 := []) [] rfl rfl).more hb_665)
                clear hh_63 ht_66 hvm_66 hz_66 hk_66 hS_66 hb_661 hb_662 hb_663 hb_664 hb_665
                obtain ⟨hr_67b, hr_67p⟩ := hr_67
                obtain ⟨hr_67p_0, hr_67p_1⟩ := hr_67p
                have hr_67' := jb_01 hr_67b
                refine lv_if_eq (tgt := 210) hx hb dX10_isOne_183 (by decide) (fun c_68 => ?_) (fun c_68 => ?_)
                · skip
                  have c_68' : r_67.toInt = 0 := jb_eq (rfl) ((by decide)) c_68
                  first | (have hr_67p_1q := hr_67p_1.resolve_left (by omega); clear hr_67p_1) | (have hr_67p_1q := hr_67p_1.resolve_right (by omega); clear hr_67p_1) | skip
                  refine lv_iconst (v := 0) hx hb dX10_isOne_210 (by decide) ?_
                  rw [hQ]
                  exact W.zret (v := 0) hx hb hr (jb_nz (Or.inl rfl)) (fun t ht hW => ⟨⟨0, (qa_66, nc), rfl, ⟨(Or.inl rfl), by first | omega | (refine ⟨?_, ?_, ?_, ?_, ?_⟩ <;> (first | omega | rfl | assumption | decide | exact Or.inl rfl | exact Or.inr rfl | (simp only; omega)))⟩, hh_66.rt (M1 := [(r0, 12, 4, .int qa_66), (r0, 12, 10, .int nc)]) [0, 2] rfl ht⟩, by rw [ht]; try exact hh_66.1.1, fun q h9 hq => by rw [ht]; try exact hh_66.1.2.1 q h9 hq⟩) hh_66.1.2.2 dX10_isOne_211
                · skip
                  have c_68' : r_67.toInt ≠ 0 := jb_eq_n (rfl) ((by decide)) c_68
                  first | (have hr_67p_1q := hr_67p_1.resolve_left (by omega); clear hr_67p_1) | (have hr_67p_1q := hr_67p_1.resolve_right (by omega); clear hr_67p_1) | skip
                  refine lv_aload_n hx hb dX10_isOne_186 rfl (lv_at hl 4 rfl) ?_
                  refine lv_iload hx hb dX10_isOne_187 (lv_at hl 0 rfl) ?_
                  refine va_calli (A0 := jA base) (H0 := s.heap) (va_runV (As := [.int z_61]) (rest := []) ⟨hx, hb, hml, hown, hts⟩ (uX10_addNode l dC dI ca base B hB hAp hB12 hB101 G0 H_66 r0 z_61 nc) (cwV 1 hts (jgV (jWr_80 _ (List.mem_of_getElem? (i := 20) rfl)) (jWr_80 _ (List.mem_of_getElem? (i := 21) rfl)) (jWr_80 _ (List.mem_of_getElem? (i := 22) rfl)) (jWr_4 _ (List.mem_of_getElem? (i := 14) rfl)) (jWr_80 _ (List.mem_of_getElem? (i := 23) rfl))) rfl rfl rfl (by decide +kernel) ⟨by rw [← hR]; show (0) + 1 ≤ 5 * ef + 5; omega, by rw [← hR]; show 8 + (2 + 11) + (0) ≤ 160 * ef + 200; omega⟩) ⟨fun a U g mk q => by obtain ⟨q0, q1, q2, qK, q10, q11, q12⟩ := q; exact ⟨q0, q1, q2, jG.calling g mk a qK, q10, q11, q12⟩, hh_66.recv (C := RX10) (T := TX10) (N := 11) hB12 rfl (by decide) hg_r0 hK, fun U hU hW => ⟨rfl, hU, hh_66.2.1, hG.step hW hU hh_66.1, hg_r0, (hh_66.2.2.1.sub (L1 := [(r0, 12, 10, .int nc)]) [2] rfl), by first | omega | (refine ⟨?_, ?_⟩ <;> (first | omega | rfl | assumption | decide | exact Or.inl rfl | exact Or.inr rfl | (simp only; omega)))⟩⟩ rfl rfl hl.1 rfl (lv_room (Nat.le_of_ble_eq_true rfl)) dX10_isOne_189 ⟨Nat.zero_le _, Nat.zero_le _⟩) hh_66.1 (fun q _ h => h) (fun q h => h) (fun r_70 u_69 t_69 H_69 locs_69 ht_69 hvm_69 hr_70 hb_69 hz_69 hk_69 hS_69 => ?_)
                  obtain ⟨qc_69, rfl⟩ : ∃ z, z = u_69 := ⟨_, rfl⟩
                  rw [ht_69] at hb_69
                  obtain ⟨hb_691, hb_692, hb_693, hb_694, hb_695⟩ := hb_69
                  have hh_69 : jSt (dC, dI) B base G0 G0 EX10_isOne s.heap 0 0 [(r0, 12, 10, .int qc_69), (r0, 12, 4, .int qa_66), (r0, 12, 3, .int tk)] [] [] H_69 locs_69 := ((hh_66.call hb_691 hb_692 hb_693 hb_694 hS_69 rfl (L1 := [(r0, 12, 4, .int qa_66), (r0, 12, 3, .int tk)]) [0, 1] rfl rfl (M1 := []) [] rfl rfl (I1 := []) [] rfl rfl).more hb_695)
                  clear hh_66 ht_69 hvm_69 hz_69 hk_69 hS_69 hb_691 hb_692 hb_693 hb_694 hb_695
                  obtain ⟨hr_70b, hr_70p⟩ := hr_70
                  obtain ⟨hr_70p_0, hr_70p_1⟩ := hr_70p
                  have hr_70' := jb_01 hr_70b
                  refine lv_if_eq (tgt := 210) hx hb dX10_isOne_192 (by decide) (fun c_71 => ?_) (fun c_71 => ?_)
                  · skip
                    have c_71' : r_70.toInt = 0 := jb_eq (rfl) ((by decide)) c_71
                    first | (have hr_70p_0q := hr_70p_0.resolve_left (by omega); clear hr_70p_0) | (have hr_70p_0q := hr_70p_0.resolve_right (by omega); clear hr_70p_0) | skip
                    refine lv_iconst (v := 0) hx hb dX10_isOne_210 (by decide) ?_
                    rw [hQ]
                    exact W.zret (v := 0) hx hb hr (jb_nz (Or.inl rfl)) (fun t ht hW => ⟨⟨0, (qa_66, qc_69), rfl, ⟨(Or.inl rfl), by first | omega | (refine ⟨?_, ?_, ?_, ?_, ?_⟩ <;> (first | omega | rfl | assumption | decide | exact Or.inl rfl | exact Or.inr rfl | (simp only; omega)))⟩, hh_69.rt (M1 := [(r0, 12, 4, .int qa_66), (r0, 12, 10, .int qc_69)]) [1, 0] rfl ht⟩, by rw [ht]; try exact hh_69.1.1, fun q h9 hq => by rw [ht]; try exact hh_69.1.2.1 q h9 hq⟩) hh_69.1.2.2 dX10_isOne_211
                  · skip
                    have c_71' : r_70.toInt ≠ 0 := jb_eq_n (rfl) ((by decide)) c_71
                    first | (have hr_70p_0q := hr_70p_0.resolve_left (by omega); clear hr_70p_0) | (have hr_70p_0q := hr_70p_0.resolve_right (by omega); clear hr_70p_0) | skip
                    refine lv_aload_n hx hb dX10_isOne_195 rfl (lv_at hl 4 rfl) ?_
                    refine lv_iconst (v := 0) hx hb dX10_isOne_196 (by decide) ?_
                    refine lv_iload_n hx hb dX10_isOne_197 rfl (lv_at hl 5 rfl) ?_
                    refine lv_iconst (v := 1) hx hb dX10_isOne_198 (by decide) ?_
                    refine lv_iadd hx hb dX10_isOne_199 ?_
                    refine lv_topi (fun z_72 ez_72 => ?_)
                    have hz_72 : z_72.toInt = a1.toInt + 1 := by rw [ez_72]; exact jb_iadd2 (rfl) ((by decide)) (by omega)
                    refine va_calli (A0 := jA base) (H0 := s.heap) (va_runV (As := [.int 0, .int z_72]) (rest := []) ⟨hx, hb, hml, hown, hts⟩ (ihC (ef - 1) (by omega) G0 H_69 r0 0 z_72 tk qa_66 qc_69) (cwV 2 hts (jgV (jWr_80 _ (List.mem_of_getElem? (i := 6) rfl)) (jWr_80 _ (List.mem_of_getElem? (i := 7) rfl)) (jWr_80 _ (List.mem_of_getElem? (i := 8) rfl)) (jWr_4 _ (List.mem_of_getElem? (i := 14) rfl)) (jWr_80 _ (List.mem_of_getElem? (i := 9) rfl))) rfl rfl rfl (by decide +kernel) ⟨by rw [← hR]; show (5 * (ef - 1) + 6 + 2) + 1 ≤ 5 * ef + 5; omega, by rw [← hR]; show 8 + (6 + 11) + (160 * (ef - 1) + 230 + 30 * 2) ≤ 160 * ef + 200; omega⟩) ⟨fun a U g mk q => by obtain ⟨q0, q1, q2, qK, q10, q11, q12⟩ := q; exact ⟨q0, q1, q2, jG.calling g mk a qK, q10, q11, q12⟩, hh_69.recv (C := RX10) (T := TX10) (N := 11) hB12 rfl (by decide) hg_r0 hK, fun U hU hW => ⟨rfl, hU, hh_69.2.1, hG.step hW hU hh_69.1, hg_r0, (hh_69.2.2.1.sub (L1 := [(r0, 12, 3, .int tk), (r0, 12, 4, .int qa_66), (r0, 12, 10, .int qc_69)]) [2, 1, 0] rfl), by first | omega | (refine ⟨?_, ?_, ?_, ?_, ?_, ?_, ?_, ?_, ?_, ?_, ?_⟩ <;> (first | omega | rfl | assumption | decide | exact Or.inl rfl | exact Or.inr rfl | (simp only; omega)))⟩⟩ rfl rfl hl.1 rfl (lv_room (Nat.le_of_ble_eq_true rfl)) dX10_isOne_200 ⟨Nat.zero_le _, Nat.zero_le _⟩) hh_69.1 (fun q _ h => h) (fun q h => h) (fun r_74 u_73 t_73 H_73 locs_73 ht_73 hvm_73 hr_74 hb_73 hz_73 hk_73 hS_73 => ?_)
                    obtain ⟨qa_73, qc_73⟩ := u_73
                    rw [ht_73] at hb_73
                    obtain ⟨hb_731, hb_732, hb_733, hb_734, hb_735⟩ := hb_73
                    have hh_73 : jSt (dC, dI) B base G0 G0 EX10_isOne s.heap 0 0 [(r0, 12, 4, .int qa_73), (r0, 12, 10, .int qc_73), (r0, 12, 3, .int tk)] [] [] H_73 locs_73 := ((hh_69.call hb_731 hb_732 hb_733 hb_734 hS_73 rfl (L1 := [(r0, 12, 3, .int tk)]) [2] rfl rfl (M1 := []) [] rfl rfl (I1 := []) [] rfl rfl).more hb_735)
                    clear hh_69 ht_73 hvm_73 hz_73 hk_73 hS_73 hb_731 hb_732 hb_733 hb_734 hb_735
                    try simp only at hr_74
                    obtain ⟨hr_74b, hr_74p⟩ := hr_74
                    obtain ⟨hr_74p_0, hr_74p_1, hr_74p_2, hr_74p_3, hr_74p_4⟩ := hr_74p
                    have hr_74' := jb_01 hr_74b
                    refine lv_if_eq (tgt := 210) hx hb dX10_isOne_203 (by decide) (fun c_75 => ?_) (fun c_75 => ?_)
                    · skip
                      have c_75' : r_74.toInt = 0 := jb_eq (rfl) ((by decide)) c_75
                      first | (have hr_74p_4q := hr_74p_4.resolve_left (by omega); clear hr_74p_4) | (have hr_74p_4q := hr_74p_4.resolve_right (by omega); clear hr_74p_4) | skip
                      refine lv_iconst (v := 0) hx hb dX10_isOne_210 (by decide) ?_
                      rw [hQ]
                      exact W.zret (v := 0) hx hb hr (jb_nz (Or.inl rfl)) (fun t ht hW => ⟨⟨0, (qa_73, qc_73), rfl, ⟨(Or.inl rfl), by first | omega | (refine ⟨?_, ?_, ?_, ?_, ?_⟩ <;> (first | omega | rfl | assumption | decide | exact Or.inl rfl | exact Or.inr rfl | (simp only; omega)))⟩, hh_73.rt (M1 := [(r0, 12, 4, .int qa_73), (r0, 12, 10, .int qc_73)]) [0, 1] rfl ht⟩, by rw [ht]; try exact hh_73.1.1, fun q h9 hq => by rw [ht]; try exact hh_73.1.2.1 q h9 hq⟩) hh_73.1.2.2 dX10_isOne_211
                    · skip
                      have c_75' : r_74.toInt ≠ 0 := jb_eq_n (rfl) ((by decide)) c_75
                      first | (have hr_74p_4q := hr_74p_4.resolve_left (by omega); clear hr_74p_4) | (have hr_74p_4q := hr_74p_4.resolve_right (by omega); clear hr_74p_4) | skip
                      refine lv_iconst (v := 1) hx hb dX10_isOne_206 (by decide) ?_
                      refine lv_goto (tgt := 211) hx hb dX10_isOne_207 (by decide) ?_
                      rw [hQ]
                      exact W.zret (v := 1) hx hb hr (jb_nz (Or.inr rfl)) (fun t ht hW => ⟨⟨1, (qa_73, qc_73), rfl, ⟨(Or.inr rfl), by first | omega | (refine ⟨?_, ?_, ?_, ?_, ?_⟩ <;> (first | omega | rfl | assumption | decide | exact Or.inl rfl | exact Or.inr rfl | (simp only; omega)))⟩, hh_73.rt (M1 := [(r0, 12, 4, .int qa_73), (r0, 12, 10, .int qc_73)]) [0, 1] rfl ht⟩, by rw [ht]; try exact hh_73.1.1, fun q h9 hq => by rw [ht]; try exact hh_73.1.2.1 q h9 hq⟩) hh_73.1.2.2 dX10_isOne_211
          · skip
            have c_59' : r_4.toInt = 0 := jb_ne_n (rfl) ((by decide)) c_59
            exact (by omega : False).elim
    · skip
      have c_6' : r_2.toInt = 40 := jb_ne_n (rfl) ((by decide)) c_6
      first | (have hr_2q := hr_2.resolve_left (by omega); clear hr_2) | (have hr_2q := hr_2.resolve_right (by omega); clear hr_2) | skip
      refine lv_aload_n hx hb dX10_isOne_70 rfl (lv_at hl 2 rfl) ?_
      refine lv_dup hx hb dX10_isOne_71 rfl ?_
      refine j7_read hx hb hown hK (C := RX10) (T := TX10) (N := 11) rfl hly_12_4 hlk_83 (hh_3.at 1 rfl) dX10_isOne_72 ?_
      refine lv_iconst (v := 1) hx hb dX10_isOne_75 (by decide) ?_
      refine lv_iadd hx hb dX10_isOne_76 ?_
      refine lv_topi (fun z_76 ez_76 => ?_)
      have hz_76 : z_76.toInt = pa.toInt + 1 := by rw [ez_76]; exact jb_iadd2 (rfl) ((by decide)) (by omega)
      refine j7_put hx hb hown hK hh_3 hB hAp hB12 (C := RX10) (T := TX10) (N := 11) rfl (by decide) hg_r0 (i := 4) (by decide) hly_12_4 rfl hlk_83 rfl (ty := .int) (v := .int z_76) (by decide +kernel) rfl rfl (⟨_, rfl, by omega, by omega⟩) rfl (L1 := [(r0, 12, 3, .int tk), (r0, 12, 10, .int nc)]) [0, 2] rfl rfl rfl dX10_isOne_77 (fun H_77 locs_77 hh_77 => ?_)
      clear hh_3
      refine lv_iload_n hx hb dX10_isOne_80 rfl (lv_at hl 3 rfl) ?_
      refine lv_bipush (v := 12) hx hb dX10_isOne_81 (by decide) ?_
      refine lv_icmp_ge (tgt := 110) hx hb dX10_isOne_83 (by decide) (fun c_78 => ?_) (fun c_78 => ?_)
      · skip
        have c_78' : a1.toInt ≥ 12 := jb_ge (rfl) ((by decide)) c_78
        refine lv_iconst (v := 0) hx hb dX10_isOne_110 (by decide) ?_
        rw [hQ]
        exact W.zret (v := 0) hx hb hr (jb_nz (Or.inl rfl)) (fun t ht hW => ⟨⟨0, (z_76, nc), rfl, ⟨(Or.inl rfl), by first | omega | (refine ⟨?_, ?_, ?_, ?_, ?_⟩ <;> (first | omega | rfl | assumption | decide | exact Or.inl rfl | exact Or.inr rfl | (simp only; omega)))⟩, hh_77.rt (M1 := [(r0, 12, 4, .int z_76), (r0, 12, 10, .int nc)]) [0, 2] rfl ht⟩, by rw [ht]; try exact hh_77.1.1, fun q h9 hq => by rw [ht]; try exact hh_77.1.2.1 q h9 hq⟩) hh_77.1.2.2 dX10_isOne_111
      · skip
        have c_78' : a1.toInt < 12 := jb_ge_n (rfl) ((by decide)) c_78
        refine lv_aload_n hx hb dX10_isOne_86 rfl (lv_at hl 2 rfl) ?_
        refine lv_iconst (v := 0) hx hb dX10_isOne_87 (by decide) ?_
        refine lv_iload_n hx hb dX10_isOne_88 rfl (lv_at hl 3 rfl) ?_
        refine lv_iconst (v := 1) hx hb dX10_isOne_89 (by decide) ?_
        refine lv_iadd hx hb dX10_isOne_90 ?_
        refine lv_topi (fun z_79 ez_79 => ?_)
        have hz_79 : z_79.toInt = a1.toInt + 1 := by rw [ez_79]; exact jb_iadd2 (rfl) ((by decide)) (by omega)
        refine va_calli (A0 := jA base) (H0 := s.heap) (va_runV (As := [.int 0, .int z_79]) (rest := []) ⟨hx, hb, hml, hown, hts⟩ (ihC (ef - 1) (by omega) G0 H_77 r0 0 z_79 tk z_76 nc) (cwV 2 hts (jgV (jWr_80 _ (List.mem_of_getElem? (i := 6) rfl)) (jWr_80 _ (List.mem_of_getElem? (i := 7) rfl)) (jWr_80 _ (List.mem_of_getElem? (i := 8) rfl)) (jWr_4 _ (List.mem_of_getElem? (i := 14) rfl)) (jWr_80 _ (List.mem_of_getElem? (i := 9) rfl))) rfl rfl rfl (by decide +kernel) ⟨by rw [← hR]; show (5 * (ef - 1) + 6 + 2) + 1 ≤ 5 * ef + 5; omega, by rw [← hR]; show 8 + (6 + 11) + (160 * (ef - 1) + 230 + 30 * 2) ≤ 160 * ef + 200; omega⟩) ⟨fun a U g mk q => by obtain ⟨q0, q1, q2, qK, q10, q11, q12⟩ := q; exact ⟨q0, q1, q2, jG.calling g mk a qK, q10, q11, q12⟩, hh_77.recv (C := RX10) (T := TX10) (N := 11) hB12 rfl (by decide) hg_r0 hK, fun U hU hW => ⟨rfl, hU, hh_77.2.1, hG.step hW hU hh_77.1, hg_r0, (hh_77.2.2.1.sub (L1 := [(r0, 12, 3, .int tk), (r0, 12, 4, .int z_76), (r0, 12, 10, .int nc)]) [1, 0, 2] rfl), by first | omega | (refine ⟨?_, ?_, ?_, ?_, ?_, ?_, ?_, ?_, ?_, ?_, ?_⟩ <;> (first | omega | rfl | assumption | decide | exact Or.inl rfl | exact Or.inr rfl | (simp only; omega)))⟩⟩ rfl rfl hl.1 rfl (lv_room (Nat.le_of_ble_eq_true rfl)) dX10_isOne_91 ⟨Nat.zero_le _, Nat.zero_le _⟩) hh_77.1 (fun q _ h => h) (fun q h => h) (fun r_81 u_80 t_80 H_80 locs_80 ht_80 hvm_80 hr_81 hb_80 hz_80 hk_80 hS_80 => ?_)
        obtain ⟨qa_80, qc_80⟩ := u_80
        rw [ht_80] at hb_80
        obtain ⟨hb_801, hb_802, hb_803, hb_804, hb_805⟩ := hb_80
        have hh_80 : jSt (dC, dI) B base G0 G0 EX10_isOne s.heap 0 0 [(r0, 12, 4, .int qa_80), (r0, 12, 10, .int qc_80), (r0, 12, 3, .int tk)] [] [] H_80 locs_80 := ((hh_77.call hb_801 hb_802 hb_803 hb_804 hS_80 rfl (L1 := [(r0, 12, 3, .int tk)]) [1] rfl rfl (M1 := []) [] rfl rfl (I1 := []) [] rfl rfl).more hb_805)
        clear hh_77 ht_80 hvm_80 hz_80 hk_80 hS_80 hb_801 hb_802 hb_803 hb_804 hb_805
        try simp only at hr_81
        obtain ⟨hr_81b, hr_81p⟩ := hr_81
        obtain ⟨hr_81p_0, hr_81p_1, hr_81p_2, hr_81p_3, hr_81p_4⟩ := hr_81p
        have hr_81' := jb_01 hr_81b
        refine lv_if_eq (tgt := 110) hx hb dX10_isOne_94 (by decide) (fun c_82 => ?_) (fun c_82 => ?_)
        · skip
          have c_82' : r_81.toInt = 0 := jb_eq (rfl) ((by decide)) c_82
          first | (have hr_81p_4q := hr_81p_4.resolve_left (by omega); clear hr_81p_4) | (have hr_81p_4q := hr_81p_4.resolve_right (by omega); clear hr_81p_4) | skip
          refine lv_iconst (v := 0) hx hb dX10_isOne_110 (by decide) ?_
          rw [hQ]
          exact W.zret (v := 0) hx hb hr (jb_nz (Or.inl rfl)) (fun t ht hW => ⟨⟨0, (qa_80, qc_80), rfl, ⟨(Or.inl rfl), by first | omega | (refine ⟨?_, ?_, ?_, ?_, ?_⟩ <;> (first | omega | rfl | assumption | decide | exact Or.inl rfl | exact Or.inr rfl | (simp only; omega)))⟩, hh_80.rt (M1 := [(r0, 12, 4, .int qa_80), (r0, 12, 10, .int qc_80)]) [0, 1] rfl ht⟩, by rw [ht]; try exact hh_80.1.1, fun q h9 hq => by rw [ht]; try exact hh_80.1.2.1 q h9 hq⟩) hh_80.1.2.2 dX10_isOne_111
        · skip
          have c_82' : r_81.toInt ≠ 0 := jb_eq_n (rfl) ((by decide)) c_82
          first | (have hr_81p_4q := hr_81p_4.resolve_left (by omega); clear hr_81p_4) | (have hr_81p_4q := hr_81p_4.resolve_right (by omega); clear hr_81p_4) | skip
          refine lv_aload_n hx hb dX10_isOne_97 rfl (lv_at hl 2 rfl) ?_
          refine lv_bipush (v := 41) hx hb dX10_isOne_98 (by decide) ?_
          refine va_calli (A0 := jA base) (H0 := s.heap) (va_runV (As := [.int 41]) (rest := []) ⟨hx, hb, hml, hown, hts⟩ (uX10_isSign l dC dI ca base B hB hAp hB12 hB101 G0 H_80 r0 41 tk qa_80) (cwV 1 hts (jgV (jWr_80 _ (List.mem_of_getElem? (i := 2) rfl)) (jWr_80 _ (List.mem_of_getElem? (i := 3) rfl)) (jWr_80 _ (List.mem_of_getElem? (i := 4) rfl)) (jWr_4 _ (List.mem_of_getElem? (i := 14) rfl)) (jWr_80 _ (List.mem_of_getElem? (i := 5) rfl))) rfl rfl rfl (by decide +kernel) ⟨by rw [← hR]; show (0) + 1 ≤ 5 * ef + 5; omega, by rw [← hR]; show 8 + (3 + 11) + (0) ≤ 160 * ef + 200; omega⟩) ⟨fun a U g mk q => by obtain ⟨q0, q1, q2, qK, q10, q11, q12⟩ := q; exact ⟨q0, q1, q2, jG.calling g mk a qK, q10, q11, q12⟩, hh_80.recv (C := RX10) (T := TX10) (N := 11) hB12 rfl (by decide) hg_r0 hK, fun U hU hW => ⟨rfl, hU, hh_80.2.1, hG.step hW hU hh_80.1, hg_r0, (hh_80.2.2.1.sub (L1 := [(r0, 12, 3, .int tk), (r0, 12, 4, .int qa_80)]) [2, 0] rfl), by first | omega | (refine ⟨?_, ?_, ?_, ?_, ?_⟩ <;> (first | omega | rfl | assumption | decide | exact Or.inl rfl | exact Or.inr rfl | (simp only; omega)))⟩⟩ rfl rfl hl.1 rfl (lv_room (Nat.le_of_ble_eq_true rfl)) dX10_isOne_100 ⟨Nat.zero_le _, Nat.zero_le _⟩) hh_80.1 (fun q _ h => h) (fun q h => h) (fun r_84 u_83 t_83 H_83 locs_83 ht_83 hvm_83 hr_84 hb_83 hz_83 hk_83 hS_83 => ?_)
          obtain ⟨qa_83, rfl⟩ : ∃ z, z = u_83 := ⟨_, rfl⟩
          rw [ht_83] at hb_83
          obtain ⟨hb_831, hb_832, hb_833, hb_834, hb_835⟩ := hb_83
          have hh_83 : jSt (dC, dI) B base G0 G0 EX10_isOne s.heap 0 0 [(r0, 12, 4, .int qa_83), (r0, 12, 10, .int qc_80), (r0, 12, 3, .int tk)] [] [] H_83 locs_83 := ((hh_80.call hb_831 hb_832 hb_833 hb_834 hS_83 rfl (L1 := [(r0, 12, 10, .int qc_80), (r0, 12, 3, .int tk)]) [1, 2] rfl rfl (M1 := []) [] rfl rfl (I1 := []) [] rfl rfl).more hb_835)
          clear hh_80 ht_83 hvm_83 hz_83 hk_83 hS_83 hb_831 hb_832 hb_833 hb_834 hb_835
          obtain ⟨hr_84b, hr_84p⟩ := hr_84
          obtain ⟨hr_84p_0, hr_84p_1⟩ := hr_84p
          have hr_84' := jb_01 hr_84b
          refine lv_if_eq (tgt := 110) hx hb dX10_isOne_103 (by decide) (fun c_85 => ?_) (fun c_85 => ?_)
          · skip
            have c_85' : r_84.toInt = 0 := jb_eq (rfl) ((by decide)) c_85
            first | (have hr_81p_4q := hr_81p_4.resolve_left (by omega); clear hr_81p_4) | (have hr_81p_4q := hr_81p_4.resolve_right (by omega); clear hr_81p_4) | skip
            first | (have hr_84p_1q := hr_84p_1.resolve_left (by omega); clear hr_84p_1) | (have hr_84p_1q := hr_84p_1.resolve_right (by omega); clear hr_84p_1) | skip
            refine lv_iconst (v := 0) hx hb dX10_isOne_110 (by decide) ?_
            rw [hQ]
            exact W.zret (v := 0) hx hb hr (jb_nz (Or.inl rfl)) (fun t ht hW => ⟨⟨0, (qa_83, qc_80), rfl, ⟨(Or.inl rfl), by first | omega | (refine ⟨?_, ?_, ?_, ?_, ?_⟩ <;> (first | omega | rfl | assumption | decide | exact Or.inl rfl | exact Or.inr rfl | (simp only; omega)))⟩, hh_83.rt (M1 := [(r0, 12, 4, .int qa_83), (r0, 12, 10, .int qc_80)]) [0, 1] rfl ht⟩, by rw [ht]; try exact hh_83.1.1, fun q h9 hq => by rw [ht]; try exact hh_83.1.2.1 q h9 hq⟩) hh_83.1.2.2 dX10_isOne_111
          · skip
            have c_85' : r_84.toInt ≠ 0 := jb_eq_n (rfl) ((by decide)) c_85
            first | (have hr_81p_4q := hr_81p_4.resolve_left (by omega); clear hr_81p_4) | (have hr_81p_4q := hr_81p_4.resolve_right (by omega); clear hr_81p_4) | skip
            first | (have hr_84p_1q := hr_84p_1.resolve_left (by omega); clear hr_84p_1) | (have hr_84p_1q := hr_84p_1.resolve_right (by omega); clear hr_84p_1) | skip
            refine lv_iconst (v := 1) hx hb dX10_isOne_106 (by decide) ?_
            refine lv_goto (tgt := 111) hx hb dX10_isOne_107 (by decide) ?_
            rw [hQ]
            exact W.zret (v := 1) hx hb hr (jb_nz (Or.inr rfl)) (fun t ht hW => ⟨⟨1, (qa_83, qc_80), rfl, ⟨(Or.inr rfl), by first | omega | (refine ⟨?_, ?_, ?_, ?_, ?_⟩ <;> (first | omega | rfl | assumption | decide | exact Or.inl rfl | exact Or.inr rfl | (simp only; omega)))⟩, hh_83.rt (M1 := [(r0, 12, 4, .int qa_83), (r0, 12, 10, .int qc_80)]) [0, 1] rfl ht⟩, by rw [ht]; try exact hh_83.1.1, fun q h9 hq => by rw [ht]; try exact hh_83.1.2.1 q h9 hq⟩) hh_83.1.2.2 dX10_isOne_111
  · skip
    have c_5' : r_2.toInt = 126 := jb_ne_n (rfl) ((by decide)) c_5
    first | (have hr_2q := hr_2.resolve_left (by omega); clear hr_2) | (have hr_2q := hr_2.resolve_right (by omega); clear hr_2) | skip
    refine lv_aload_n hx hb dX10_isOne_16 rfl (lv_at hl 2 rfl) ?_
    refine lv_dup hx hb dX10_isOne_17 rfl ?_
    refine j7_read hx hb hown hK (C := RX10) (T := TX10) (N := 11) rfl hly_12_4 hlk_83 (hh_3.at 1 rfl) dX10_isOne_18 ?_
    refine lv_iconst (v := 1) hx hb dX10_isOne_21 (by decide) ?_
    refine lv_iadd hx hb dX10_isOne_22 ?_
    refine lv_topi (fun z_86 ez_86 => ?_)
    have hz_86 : z_86.toInt = pa.toInt + 1 := by rw [ez_86]; exact jb_iadd2 (rfl) ((by decide)) (by omega)
    refine j7_put hx hb hown hK hh_3 hB hAp hB12 (C := RX10) (T := TX10) (N := 11) rfl (by decide) hg_r0 (i := 4) (by decide) hly_12_4 rfl hlk_83 rfl (ty := .int) (v := .int z_86) (by decide +kernel) rfl rfl (⟨_, rfl, by omega, by omega⟩) rfl (L1 := [(r0, 12, 3, .int tk), (r0, 12, 10, .int nc)]) [0, 2] rfl rfl rfl dX10_isOne_23 (fun H_87 locs_87 hh_87 => ?_)
    clear hh_3
    refine lv_iload_n hx hb dX10_isOne_26 rfl (lv_at hl 3 rfl) ?_
    refine lv_bipush (v := 12) hx hb dX10_isOne_27 (by decide) ?_
    refine lv_icmp_ge (tgt := 62) hx hb dX10_isOne_29 (by decide) (fun c_88 => ?_) (fun c_88 => ?_)
    · skip
      have c_88' : a1.toInt ≥ 12 := jb_ge (rfl) ((by decide)) c_88
      refine lv_iconst (v := 0) hx hb dX10_isOne_62 (by decide) ?_
      rw [hQ]
      exact W.zret (v := 0) hx hb hr (jb_nz (Or.inl rfl)) (fun t ht hW => ⟨⟨0, (z_86, nc), rfl, ⟨(Or.inl rfl), by first | omega | (refine ⟨?_, ?_, ?_, ?_, ?_⟩ <;> (first | omega | rfl | assumption | decide | exact Or.inl rfl | exact Or.inr rfl | (simp only; omega)))⟩, hh_87.rt (M1 := [(r0, 12, 4, .int z_86), (r0, 12, 10, .int nc)]) [0, 2] rfl ht⟩, by rw [ht]; try exact hh_87.1.1, fun q h9 hq => by rw [ht]; try exact hh_87.1.2.1 q h9 hq⟩) hh_87.1.2.2 dX10_isOne_63
    · skip
      have c_88' : a1.toInt < 12 := jb_ge_n (rfl) ((by decide)) c_88
      refine lv_aload_n hx hb dX10_isOne_32 rfl (lv_at hl 2 rfl) ?_
      refine lv_iconst (v := 1) hx hb dX10_isOne_33 (by decide) ?_
      refine va_calli (A0 := jA base) (H0 := s.heap) (va_runV (As := [.int 1]) (rest := []) ⟨hx, hb, hml, hown, hts⟩ (uX10_addNode l dC dI ca base B hB hAp hB12 hB101 G0 H_87 r0 1 nc) (cwV 1 hts (jgV (jWr_80 _ (List.mem_of_getElem? (i := 20) rfl)) (jWr_80 _ (List.mem_of_getElem? (i := 21) rfl)) (jWr_80 _ (List.mem_of_getElem? (i := 22) rfl)) (jWr_4 _ (List.mem_of_getElem? (i := 14) rfl)) (jWr_80 _ (List.mem_of_getElem? (i := 23) rfl))) rfl rfl rfl (by decide +kernel) ⟨by rw [← hR]; show (0) + 1 ≤ 5 * ef + 5; omega, by rw [← hR]; show 8 + (2 + 11) + (0) ≤ 160 * ef + 200; omega⟩) ⟨fun a U g mk q => by obtain ⟨q0, q1, q2, qK, q10, q11, q12⟩ := q; exact ⟨q0, q1, q2, jG.calling g mk a qK, q10, q11, q12⟩, hh_87.recv (C := RX10) (T := TX10) (N := 11) hB12 rfl (by decide) hg_r0 hK, fun U hU hW => ⟨rfl, hU, hh_87.2.1, hG.step hW hU hh_87.1, hg_r0, (hh_87.2.2.1.sub (L1 := [(r0, 12, 10, .int nc)]) [2] rfl), by first | omega | (refine ⟨?_, ?_⟩ <;> (first | omega | rfl | assumption | decide | exact Or.inl rfl | exact Or.inr rfl | (simp only; omega)))⟩⟩ rfl rfl hl.1 rfl (lv_room (Nat.le_of_ble_eq_true rfl)) dX10_isOne_34 ⟨Nat.zero_le _, Nat.zero_le _⟩) hh_87.1 (fun q _ h => h) (fun q h => h) (fun r_90 u_89 t_89 H_89 locs_89 ht_89 hvm_89 hr_90 hb_89 hz_89 hk_89 hS_89 => ?_)
      obtain ⟨qc_89, rfl⟩ : ∃ z, z = u_89 := ⟨_, rfl⟩
      rw [ht_89] at hb_89
      obtain ⟨hb_891, hb_892, hb_893, hb_894, hb_895⟩ := hb_89
      have hh_89 : jSt (dC, dI) B base G0 G0 EX10_isOne s.heap 0 0 [(r0, 12, 10, .int qc_89), (r0, 12, 4, .int z_86), (r0, 12, 3, .int tk)] [] [] H_89 locs_89 := ((hh_87.call hb_891 hb_892 hb_893 hb_894 hS_89 rfl (L1 := [(r0, 12, 4, .int z_86), (r0, 12, 3, .int tk)]) [0, 1] rfl rfl (M1 := []) [] rfl rfl (I1 := []) [] rfl rfl).more hb_895)
      clear hh_87 ht_89 hvm_89 hz_89 hk_89 hS_89 hb_891 hb_892 hb_893 hb_894 hb_895
      obtain ⟨hr_90b, hr_90p⟩ := hr_90
      obtain ⟨hr_90p_0, hr_90p_1⟩ := hr_90p
      have hr_90' := jb_01 hr_90b
      refine lv_if_eq (tgt := 62) hx hb dX10_isOne_37 (by decide) (fun c_91 => ?_) (fun c_91 => ?_)
      · skip
        have c_91' : r_90.toInt = 0 := jb_eq (rfl) ((by decide)) c_91
        first | (have hr_90p_0q := hr_90p_0.resolve_left (by omega); clear hr_90p_0) | (have hr_90p_0q := hr_90p_0.resolve_right (by omega); clear hr_90p_0) | skip
        refine lv_iconst (v := 0) hx hb dX10_isOne_62 (by decide) ?_
        rw [hQ]
        exact W.zret (v := 0) hx hb hr (jb_nz (Or.inl rfl)) (fun t ht hW => ⟨⟨0, (z_86, qc_89), rfl, ⟨(Or.inl rfl), by first | omega | (refine ⟨?_, ?_, ?_, ?_, ?_⟩ <;> (first | omega | rfl | assumption | decide | exact Or.inl rfl | exact Or.inr rfl | (simp only; omega)))⟩, hh_89.rt (M1 := [(r0, 12, 4, .int z_86), (r0, 12, 10, .int qc_89)]) [1, 0] rfl ht⟩, by rw [ht]; try exact hh_89.1.1, fun q h9 hq => by rw [ht]; try exact hh_89.1.2.1 q h9 hq⟩) hh_89.1.2.2 dX10_isOne_63
      · skip
        have c_91' : r_90.toInt ≠ 0 := jb_eq_n (rfl) ((by decide)) c_91
        first | (have hr_90p_0q := hr_90p_0.resolve_left (by omega); clear hr_90p_0) | (have hr_90p_0q := hr_90p_0.resolve_right (by omega); clear hr_90p_0) | skip
        refine lv_aload_n hx hb dX10_isOne_40 rfl (lv_at hl 2 rfl) ?_
        refine lv_iload_n hx hb dX10_isOne_41 rfl (lv_at hl 3 rfl) ?_
        refine lv_iconst (v := 1) hx hb dX10_isOne_42 (by decide) ?_
        refine lv_iadd hx hb dX10_isOne_43 ?_
        refine lv_topi (fun z_92 ez_92 => ?_)
        have hz_92 : z_92.toInt = a1.toInt + 1 := by rw [ez_92]; exact jb_iadd2 (rfl) ((by decide)) (by omega)
        refine va_calli (A0 := jA base) (H0 := s.heap) (va_runV (As := [.int z_92]) (rest := []) ⟨hx, hb, hml, hown, hts⟩ (ihO (ef - 1) (by omega) G0 H_89 r0 z_92 tk z_86 qc_89) (cwV 1 hts (jgV (jWr_80 _ (List.mem_of_getElem? (i := 12) rfl)) (jWr_80 _ (List.mem_of_getElem? (i := 13) rfl)) (jWr_80 _ (List.mem_of_getElem? (i := 14) rfl)) (jWr_4 _ (List.mem_of_getElem? (i := 14) rfl)) (jWr_80 _ (List.mem_of_getElem? (i := 19) rfl))) rfl rfl rfl (by decide +kernel) ⟨by rw [← hR]; show (5 * (ef - 1) + 5) + 1 ≤ 5 * ef + 5; omega, by rw [← hR]; show 8 + (6 + 11) + (160 * (ef - 1) + 200) ≤ 160 * ef + 200; omega⟩) ⟨fun a U g mk q => by obtain ⟨q0, q1, q2, qK, q10, q11, q12⟩ := q; exact ⟨q0, q1, q2, jG.calling g mk a qK, q10, q11, q12⟩, hh_89.recv (C := RX10) (T := TX10) (N := 11) hB12 rfl (by decide) hg_r0 hK, fun U hU hW => ⟨rfl, hU, hh_89.2.1, hG.step hW hU hh_89.1, hg_r0, (hh_89.2.2.1.sub (L1 := [(r0, 12, 3, .int tk), (r0, 12, 4, .int z_86), (r0, 12, 10, .int qc_89)]) [2, 1, 0] rfl), by first | omega | (refine ⟨?_, ?_, ?_, ?_, ?_, ?_, ?_, ?_, ?_⟩ <;> (first | omega | rfl | assumption | decide | exact Or.inl rfl | exact Or.inr rfl | (simp only; omega)))⟩⟩ rfl rfl hl.1 rfl (lv_room (Nat.le_of_ble_eq_true rfl)) dX10_isOne_44 ⟨Nat.zero_le _, Nat.zero_le _⟩) hh_89.1 (fun q _ h => h) (fun q h => h) (fun r_94 u_93 t_93 H_93 locs_93 ht_93 hvm_93 hr_94 hb_93 hz_93 hk_93 hS_93 => ?_)
        obtain ⟨qa_93, qc_93⟩ := u_93
        rw [ht_93] at hb_93
        obtain ⟨hb_931, hb_932, hb_933, hb_934, hb_935⟩ := hb_93
        have hh_93 : jSt (dC, dI) B base G0 G0 EX10_isOne s.heap 0 0 [(r0, 12, 4, .int qa_93), (r0, 12, 10, .int qc_93), (r0, 12, 3, .int tk)] [] [] H_93 locs_93 := ((hh_89.call hb_931 hb_932 hb_933 hb_934 hS_93 rfl (L1 := [(r0, 12, 3, .int tk)]) [2] rfl rfl (M1 := []) [] rfl rfl (I1 := []) [] rfl rfl).more hb_935)
        clear hh_89 ht_93 hvm_93 hz_93 hk_93 hS_93 hb_931 hb_932 hb_933 hb_934 hb_935
        try simp only at hr_94
        obtain ⟨hr_94b, hr_94p⟩ := hr_94
        obtain ⟨hr_94p_0, hr_94p_1, hr_94p_2, hr_94p_3, hr_94p_4⟩ := hr_94p
        have hr_94' := jb_01 hr_94b
        refine lv_if_eq (tgt := 62) hx hb dX10_isOne_47 (by decide) (fun c_95 => ?_) (fun c_95 => ?_)
        · skip
          have c_95' : r_94.toInt = 0 := jb_eq (rfl) ((by decide)) c_95
          first | (have hr_94p_4q := hr_94p_4.resolve_left (by omega); clear hr_94p_4) | (have hr_94p_4q := hr_94p_4.resolve_right (by omega); clear hr_94p_4) | skip
          refine lv_iconst (v := 0) hx hb dX10_isOne_62 (by decide) ?_
          rw [hQ]
          exact W.zret (v := 0) hx hb hr (jb_nz (Or.inl rfl)) (fun t ht hW => ⟨⟨0, (qa_93, qc_93), rfl, ⟨(Or.inl rfl), by first | omega | (refine ⟨?_, ?_, ?_, ?_, ?_⟩ <;> (first | omega | rfl | assumption | decide | exact Or.inl rfl | exact Or.inr rfl | (simp only; omega)))⟩, hh_93.rt (M1 := [(r0, 12, 4, .int qa_93), (r0, 12, 10, .int qc_93)]) [0, 1] rfl ht⟩, by rw [ht]; try exact hh_93.1.1, fun q h9 hq => by rw [ht]; try exact hh_93.1.2.1 q h9 hq⟩) hh_93.1.2.2 dX10_isOne_63
        · skip
          have c_95' : r_94.toInt ≠ 0 := jb_eq_n (rfl) ((by decide)) c_95
          first | (have hr_94p_4q := hr_94p_4.resolve_left (by omega); clear hr_94p_4) | (have hr_94p_4q := hr_94p_4.resolve_right (by omega); clear hr_94p_4) | skip
          refine lv_aload_n hx hb dX10_isOne_50 rfl (lv_at hl 2 rfl) ?_
          refine lv_iconst (v := 0) hx hb dX10_isOne_51 (by decide) ?_
          refine va_calli (A0 := jA base) (H0 := s.heap) (va_runV (As := [.int 0]) (rest := []) ⟨hx, hb, hml, hown, hts⟩ (uX10_addNode l dC dI ca base B hB hAp hB12 hB101 G0 H_93 r0 0 qc_93) (cwV 1 hts (jgV (jWr_80 _ (List.mem_of_getElem? (i := 20) rfl)) (jWr_80 _ (List.mem_of_getElem? (i := 21) rfl)) (jWr_80 _ (List.mem_of_getElem? (i := 22) rfl)) (jWr_4 _ (List.mem_of_getElem? (i := 14) rfl)) (jWr_80 _ (List.mem_of_getElem? (i := 23) rfl))) rfl rfl rfl (by decide +kernel) ⟨by rw [← hR]; show (0) + 1 ≤ 5 * ef + 5; omega, by rw [← hR]; show 8 + (2 + 11) + (0) ≤ 160 * ef + 200; omega⟩) ⟨fun a U g mk q => by obtain ⟨q0, q1, q2, qK, q10, q11, q12⟩ := q; exact ⟨q0, q1, q2, jG.calling g mk a qK, q10, q11, q12⟩, hh_93.recv (C := RX10) (T := TX10) (N := 11) hB12 rfl (by decide) hg_r0 hK, fun U hU hW => ⟨rfl, hU, hh_93.2.1, hG.step hW hU hh_93.1, hg_r0, (hh_93.2.2.1.sub (L1 := [(r0, 12, 10, .int qc_93)]) [1] rfl), by first | omega | (refine ⟨?_, ?_⟩ <;> (first | omega | rfl | assumption | decide | exact Or.inl rfl | exact Or.inr rfl | (simp only; omega)))⟩⟩ rfl rfl hl.1 rfl (lv_room (Nat.le_of_ble_eq_true rfl)) dX10_isOne_52 ⟨Nat.zero_le _, Nat.zero_le _⟩) hh_93.1 (fun q _ h => h) (fun q h => h) (fun r_97 u_96 t_96 H_96 locs_96 ht_96 hvm_96 hr_97 hb_96 hz_96 hk_96 hS_96 => ?_)
          obtain ⟨qc_96, rfl⟩ : ∃ z, z = u_96 := ⟨_, rfl⟩
          rw [ht_96] at hb_96
          obtain ⟨hb_961, hb_962, hb_963, hb_964, hb_965⟩ := hb_96
          have hh_96 : jSt (dC, dI) B base G0 G0 EX10_isOne s.heap 0 0 [(r0, 12, 10, .int qc_96), (r0, 12, 4, .int qa_93), (r0, 12, 3, .int tk)] [] [] H_96 locs_96 := ((hh_93.call hb_961 hb_962 hb_963 hb_964 hS_96 rfl (L1 := [(r0, 12, 4, .int qa_93), (r0, 12, 3, .int tk)]) [0, 2] rfl rfl (M1 := []) [] rfl rfl (I1 := []) [] rfl rfl).more hb_965)
          clear hh_93 ht_96 hvm_96 hz_96 hk_96 hS_96 hb_961 hb_962 hb_963 hb_964 hb_965
          obtain ⟨hr_97b, hr_97p⟩ := hr_97
          obtain ⟨hr_97p_0, hr_97p_1⟩ := hr_97p
          have hr_97' := jb_01 hr_97b
          refine lv_if_eq (tgt := 62) hx hb dX10_isOne_55 (by decide) (fun c_98 => ?_) (fun c_98 => ?_)
          · skip
            have c_98' : r_97.toInt = 0 := jb_eq (rfl) ((by decide)) c_98
            first | (have hr_97p_0q := hr_97p_0.resolve_left (by omega); clear hr_97p_0) | (have hr_97p_0q := hr_97p_0.resolve_right (by omega); clear hr_97p_0) | skip
            refine lv_iconst (v := 0) hx hb dX10_isOne_62 (by decide) ?_
            rw [hQ]
            exact W.zret (v := 0) hx hb hr (jb_nz (Or.inl rfl)) (fun t ht hW => ⟨⟨0, (qa_93, qc_96), rfl, ⟨(Or.inl rfl), by first | omega | (refine ⟨?_, ?_, ?_, ?_, ?_⟩ <;> (first | omega | rfl | assumption | decide | exact Or.inl rfl | exact Or.inr rfl | (simp only; omega)))⟩, hh_96.rt (M1 := [(r0, 12, 4, .int qa_93), (r0, 12, 10, .int qc_96)]) [1, 0] rfl ht⟩, by rw [ht]; try exact hh_96.1.1, fun q h9 hq => by rw [ht]; try exact hh_96.1.2.1 q h9 hq⟩) hh_96.1.2.2 dX10_isOne_63
          · skip
            have c_98' : r_97.toInt ≠ 0 := jb_eq_n (rfl) ((by decide)) c_98
            first | (have hr_97p_0q := hr_97p_0.resolve_left (by omega); clear hr_97p_0) | (have hr_97p_0q := hr_97p_0.resolve_right (by omega); clear hr_97p_0) | skip
            refine lv_iconst (v := 1) hx hb dX10_isOne_58 (by decide) ?_
            refine lv_goto (tgt := 63) hx hb dX10_isOne_59 (by decide) ?_
            rw [hQ]
            exact W.zret (v := 1) hx hb hr (jb_nz (Or.inr rfl)) (fun t ht hW => ⟨⟨1, (qa_93, qc_96), rfl, ⟨(Or.inr rfl), by first | omega | (refine ⟨?_, ?_, ?_, ?_, ?_⟩ <;> (first | omega | rfl | assumption | decide | exact Or.inl rfl | exact Or.inr rfl | (simp only; omega)))⟩, hh_96.rt (M1 := [(r0, 12, 4, .int qa_93), (r0, 12, 10, .int qc_96)]) [1, 0] rfl ht⟩, by rw [ht]; try exact hh_96.1.1, fun q h9 hq => by rw [ht]; try exact hh_96.1.2.1 q h9 hq⟩) hh_96.1.2.2 dX10_isOne_63
set_option maxHeartbeats 4000000 in
set_option maxRecDepth 20000 in
theorem uX10_isChain (l : Launch) (dC : Nat → ClassId) (dI : Nat → Nat → Nat) (ca : Nat → ClassId) (base : Nat) (B : jF) (hB : jBok B) (hAp : jAp (dC, dI)) (hB12 : ∀ n G a H, B 12 n G a H ↔ jOb (dC, dI) 12 11 (F12 n G) a H) (hB101 : ∀ n G a H, B 101 n G a H ↔ jAr (dC, dI) (ca 1) (fun j z => True) n a H) (ef : Nat) (jf : Nat) (hO : qX10_isOne l dC dI ca base B ef) (ihJ : ∀ j1, j1 < jf → qX10_isChain l dC dI ca base B ef j1) (G0 : jT) (H0 : Heap) (r0 : Nat) (a1 : Int32) (a2 : Int32) (tk : Int32) (pa : Int32) (nc : Int32) : Met l yX10_isChain (jw yX10_isChain cX10_isChain 6 (some .boolean)) ({ frames := 5 * ef + 6 + jf, cells := 0, slots := 0, locals := 160 * ef + 230 + 30 * jf }) (va_Pc [.ref r0, .int a1, .int a2] (fun U => U.heap = H0 ∧ jX B base G0 [] H0 ∧ jG dC dI ca base U ∧ G0 r0 = some (12, 0) ∧ jP (dC, dI) G0 H0 [(r0, 12, 3, .int tk), (r0, 12, 4, .int pa), (r0, 12, 10, .int nc)] ∧ 0 ≤ tk.toInt ∧ tk.toInt ≤ 1500 ∧ 0 ≤ pa.toInt ∧ pa.toInt ≤ 1503 ∧ 0 ≤ nc.toInt ∧ nc.toInt ≤ 3000 ∧ pa.toInt ≤ tk.toInt ∧ a2.toInt = 12 - ef ∧ ef ≤ 12 ∧ a1.toInt = 2 - jf ∧ jf ≤ 2)) (va_Qi (S := Int32 × Int32) (fun r u => (r = 0 ∨ r = 1) ∧ (0 ≤ u.1.toInt ∧ u.1.toInt ≤ tk.toInt + 2 ∧ nc.toInt ≤ u.2.toInt ∧ u.2.toInt ≤ 3000 ∧ (r.toInt = 0 ∨ (u.1.toInt ≤ tk.toInt ∧ nc.toInt + 1 ≤ u.2.toInt)))) (fun u t => jRt (dC, dI) B base G0 EX10_isChain H0 [(r0, 12, 4, .int u.1), (r0, 12, 10, .int u.2)] t.heap) (jA base)) 0 0 (jA base) := by
  refine Met.ofW (cc := cX10_isChain) (maxL := 6) (ret := (some .boolean)) (by decide) rfl ?_
  intro p e s m args below meth c s₁ Bd hml hv
  obtain ⟨rfl, hH0, hX, hG, hg_r0, hP0, hp0, hp1, hp2, hp3, hp4, hp5, hp6, hp7, hp8, hp9, hp10⟩ := hv
  have hK := hG.1
  have hx := Bd.exec
  have hb := Bd.bytes
  have hr := Bd.returns
  have hts := atoms_spec (ws := (jw yX10_isChain cX10_isChain 6 (some .boolean))) Bd.pre
  have htw : ∀ w ∈ jWl, w.before _ s = true := fun w h => hts w (List.mem_cons_of_mem _ h)
  have hown : s.vm.findClass RX10 = some m.cls := findClass_of_methodNamed Bd.named
  have hlocks := Bd.notSynchronized
  obtain ⟨Q, hQ⟩ : ∃ Q, Q = MQ below (va_Qi (S := Int32 × Int32) (fun r u => (r = 0 ∨ r = 1) ∧ (0 ≤ u.1.toInt ∧ u.1.toInt ≤ tk.toInt + 2 ∧ nc.toInt ≤ u.2.toInt ∧ u.2.toInt ≤ 3000 ∧ (r.toInt = 0 ∨ (u.1.toInt ≤ tk.toInt ∧ nc.toInt + 1 ≤ u.2.toInt)))) (fun u t => jRt (dC, dI) B base G0 EX10_isChain H0 [(r0, 12, 4, .int u.1), (r0, 12, 10, .int u.2)] t.heap) (jA base)) ([.ref r0, .int a1, .int a2] : List Value).toArray s 0 0 (jA base) := ⟨_, rfl⟩
  rw [← hQ]
  have hl := lv_entry ([.ref r0, .int a1, .int a2]) (n := 6) (Nat.le_of_ble_eq_true rfl)
  rw [lg_entry_eq]
  generalize (lg_sl ([.ref r0, .int a1, .int a2]) ++ List.replicate (6 - (lg_sl ([.ref r0, .int a1, .int a2])).length) Slot.unset).toArray = ls at hl ⊢
  have hl : lv_has ls 6 [(0, .ref r0), (1, .int a1), (2, .int a2)] := hl
  generalize hR : (headSpec (jw yX10_isChain cX10_isChain 6 (some .boolean)) ({ frames := 5 * ef + 6 + jf, cells := 0, slots := 0, locals := 160 * ef + 230 + 30 * jf })).room = R
  subst hH0
  have hh : jSt (dC, dI) B base G0 G0 EX10_isChain s.heap 0 0 [(r0, 12, 3, .int tk), (r0, 12, 4, .int pa), (r0, 12, 10, .int nc)] [] [] s.heap [] := jSt.start hX hP0 jMc.nil jIs.nil
  clear hX hP0
  have hk0 : (0 : Int32).toInt = 0 := by decide
  have hk1 : (1 : Int32).toInt = 1 := by decide
  have hk1500 : (1500 : Int32).toInt = 1500 := by decide
  have hly_12_4 := htw (u_lay RX10 TX10 4) (jWc_wsX100 _ (u_in_lay (by decide)))
  have hly_12_10 := htw (u_lay RX10 TX10 10) (jWc_wsX100 _ (u_in_lay (by decide)))
  have hlk_89 := (htw (.fieldLink RX10 89 "ProofServer$Syntax" "nodeCount" "I") (jWr_79 _ (List.mem_of_getElem? (i := 7) rfl)))
  have hlk_83 := (htw (.fieldLink RX10 83 "ProofServer$Syntax" "at" "I") (jWr_79 _ (List.mem_of_getElem? (i := 5) rfl)))
  have hrg_a1 := jb_rng a1
  have hrg_a2 := jb_rng a2
  refine lv_iconst (v := 0) hx hb dX10_isChain_0 (by decide) ?_
  refine lv_istore_n (lv' := [(3, .int 0), (0, .ref r0), (1, .int a1), (2, .int a2)]) hx hb dX10_isChain_1 rfl hl (by decide) rfl (fun ls hl => ?_)
  have L2 : ∀ (N : Nat) (v3_1 : Int32) (wa_1 : Int32) (wc_1 : Int32) (H_1 : Heap) (locs_1 : List Loc), jSt (dC, dI) B base G0 G0 EX10_isChain s.heap 0 0 [(r0, 12, 4, .int wa_1), (r0, 12, 10, .int wc_1), (r0, 12, 3, .int tk)] [] [] H_1 locs_1 → (0 ≤ v3_1.toInt ∧ v3_1.toInt ≤ 1500 ∧ 0 ≤ wa_1.toInt ∧ wa_1.toInt ≤ tk.toInt ∧ nc.toInt ≤ wc_1.toInt ∧ wc_1.toInt ≤ 3000) → (1500 - v3_1.toInt : Int) < N → ∀ ls : Array Slot, lv_has ls 6 [(0, .ref r0), (1, .int a1), (2, .int a2), (3, .int v3_1)] → W p l e R s m ([.ref r0, .int a1, .int a2] : List Value).toArray below meth c H_1 locs_1 0 0 Q (F0 m 2 ls []) := by
    intro N
    induction N with
    | zero => intro v3_1 wa_1 wc_1 H_1 locs_1 hh_1  hi_1 hm; exact absurd hm (by omega)
    | succ N L2 =>
      intro v3_1 wa_1 wc_1 H_1 locs_1 hh_1  hi_1 hm_1 ls hl
      obtain ⟨hi_1_0, hi_1_1, hi_1_2, hi_1_3, hi_1_4, hi_1_5⟩ := hi_1
      refine lv_iload_n hx hb dX10_isChain_2 rfl (lv_at hl 3 rfl) ?_
      refine lv_sipush (v := 1500) hx hb dX10_isChain_3 (by decide) ?_
      refine lv_icmp_ge (tgt := 104) hx hb dX10_isChain_6 (by decide) (fun c_2 => ?_) (fun c_2 => ?_)
      · skip
        have c_2' : v3_1.toInt ≥ 1500 := jb_ge (rfl) ((by decide)) c_2
        refine lv_iconst (v := 0) hx hb dX10_isChain_104 (by decide) ?_
        rw [hQ]
        exact W.zret (v := 0) hx hb hr (jb_nz (Or.inl rfl)) (fun t ht hW => ⟨⟨0, (wa_1, wc_1), rfl, ⟨(Or.inl rfl), by first | omega | (refine ⟨?_, ?_, ?_, ?_, ?_⟩ <;> (first | omega | rfl | assumption | decide | exact Or.inl rfl | exact Or.inr rfl | (simp only; omega)))⟩, hh_1.rt (M1 := [(r0, 12, 4, .int wa_1), (r0, 12, 10, .int wc_1)]) [0, 1] rfl ht⟩, by rw [ht]; try exact hh_1.1.1, fun q h9 hq => by rw [ht]; try exact hh_1.1.2.1 q h9 hq⟩) hh_1.1.2.2 dX10_isChain_105
      · skip
        have c_2' : v3_1.toInt < 1500 := jb_ge_n (rfl) ((by decide)) c_2
        refine lv_iload_n hx hb dX10_isChain_9 rfl (lv_at hl 1 rfl) ?_
        obtain ⟨ts_3, fts_3, hzts_3, htts_3, hpts_3⟩ := hG.2.2.2.2.2.1
        refine va_gets hx hb hzts_3 hh_1.1 hown (htw (.fieldLink RX10 122 "ProofServer$Syntax" "CHAIN_SIGNS" "[I") (jWr_80 _ (List.mem_of_getElem? (i := 10) rfl))) (fun _ h9 => h9) dX10_isChain_10 ?_
        refine va_tlen hx hb htts_3 hh_1.1 (v := Int32.ofNat 3) rfl dX10_isChain_13 ?_
        refine lv_topi (fun z_4 ez_4 => ?_)
        have hz_4 : z_4.toInt = 3 := by rw [ez_4]; exact jb_nat (by omega)
        refine lv_icmp_ge (tgt := 104) hx hb dX10_isChain_14 (by decide) (fun c_5 => ?_) (fun c_5 => ?_)
        · skip
          have c_5' : a1.toInt ≥ z_4.toInt := jb_ge (rfl) (rfl) c_5
          refine lv_iconst (v := 0) hx hb dX10_isChain_104 (by decide) ?_
          rw [hQ]
          exact W.zret (v := 0) hx hb hr (jb_nz (Or.inl rfl)) (fun t ht hW => ⟨⟨0, (wa_1, wc_1), rfl, ⟨(Or.inl rfl), by first | omega | (refine ⟨?_, ?_, ?_, ?_, ?_⟩ <;> (first | omega | rfl | assumption | decide | exact Or.inl rfl | exact Or.inr rfl | (simp only; omega)))⟩, hh_1.rt (M1 := [(r0, 12, 4, .int wa_1), (r0, 12, 10, .int wc_1)]) [0, 1] rfl ht⟩, by rw [ht]; try exact hh_1.1.1, fun q h9 hq => by rw [ht]; try exact hh_1.1.2.1 q h9 hq⟩) hh_1.1.2.2 dX10_isChain_105
        · skip
          have c_5' : a1.toInt < z_4.toInt := jb_ge_n (rfl) (rfl) c_5
          refine lv_aload_n hx hb dX10_isChain_17 rfl (lv_at hl 0 rfl) ?_
          refine j7_read hx hb hown hK (C := RX10) (T := TX10) (N := 11) rfl hly_12_10 hlk_89 (hh_1.at 1 rfl) dX10_isChain_18 ?_
          refine lv_istore (lv' := [(4, .int wc_1), (0, .ref r0), (1, .int a1), (2, .int a2), (3, .int v3_1)]) hx hb dX10_isChain_21 hl (by decide) rfl (fun ls hl => ?_)
          refine lv_iload_n hx hb dX10_isChain_23 rfl (lv_at hl 2 rfl) ?_
          obtain ⟨ts_6, fts_6, hzts_6, htts_6, hpts_6⟩ := hG.2.2.2.2.2.1
          refine va_gets hx hb hzts_6 hh_1.1 hown (htw (.fieldLink RX10 122 "ProofServer$Syntax" "CHAIN_SIGNS" "[I") (jWr_80 _ (List.mem_of_getElem? (i := 10) rfl))) (fun _ h9 => h9) dX10_isChain_24 ?_
          refine va_tlen hx hb htts_6 hh_1.1 (v := Int32.ofNat 3) rfl dX10_isChain_27 ?_
          refine lv_topi (fun z_7 ez_7 => ?_)
          have hz_7 : z_7.toInt = 3 := by rw [ez_7]; exact jb_nat (by omega)
          refine lv_iconst (v := 1) hx hb dX10_isChain_28 (by decide) ?_
          refine lv_isub hx hb dX10_isChain_29 ?_
          refine lv_topi (fun z_8 ez_8 => ?_)
          have hz_8 : z_8.toInt = z_7.toInt - 1 := by rw [ez_8]; exact jb_isub2 (rfl) ((by decide)) (by omega)
          refine lv_icmp_ne (tgt := 41) hx hb dX10_isChain_30 (by decide) (fun c_9 => ?_) (fun c_9 => ?_)
          · skip
            have c_9' : a1.toInt ≠ z_8.toInt := jb_ne (rfl) (rfl) c_9
            refine lv_aload_n hx hb dX10_isChain_41 rfl (lv_at hl 1 rfl) ?_
            refine lv_iload_n hx hb dX10_isChain_42 rfl (lv_at hl 2 rfl) ?_
            refine lv_iconst (v := 1) hx hb dX10_isChain_43 (by decide) ?_
            refine lv_iadd hx hb dX10_isChain_44 ?_
            refine lv_topi (fun z_10 ez_10 => ?_)
            have hz_10 : z_10.toInt = a1.toInt + 1 := by rw [ez_10]; exact jb_iadd2 (rfl) ((by decide)) (by omega)
            refine lv_iload_n hx hb dX10_isChain_45 rfl (lv_at hl 3 rfl) ?_
            refine va_calli (A0 := jA base) (H0 := s.heap) (va_runV (As := [.int z_10, .int a2]) (rest := []) ⟨hx, hb, hml, hown, hts⟩ (ihJ (jf - 1) (by omega) G0 H_1 r0 z_10 a2 tk wa_1 wc_1) (cwV 2 hts (jgV (jWr_80 _ (List.mem_of_getElem? (i := 6) rfl)) (jWr_80 _ (List.mem_of_getElem? (i := 7) rfl)) (jWr_80 _ (List.mem_of_getElem? (i := 8) rfl)) (jWr_4 _ (List.mem_of_getElem? (i := 14) rfl)) (jWr_80 _ (List.mem_of_getElem? (i := 9) rfl))) rfl rfl rfl (by decide +kernel) ⟨by rw [← hR]; show (5 * ef + 6 + (jf - 1)) + 1 ≤ 5 * ef + 6 + jf; omega, by rw [← hR]; show 8 + (6 + 11) + (160 * ef + 230 + 30 * (jf - 1)) ≤ 160 * ef + 230 + 30 * jf; omega⟩) ⟨fun a U g mk q => by obtain ⟨q0, q1, q2, qK, q10, q11, q12⟩ := q; exact ⟨q0, q1, q2, jG.calling g mk a qK, q10, q11, q12⟩, hh_1.recv (C := RX10) (T := TX10) (N := 11) hB12 rfl (by decide) hg_r0 hK, fun U hU hW => ⟨rfl, hU, hh_1.2.1, hG.step hW hU hh_1.1, hg_r0, (hh_1.2.2.1.sub (L1 := [(r0, 12, 3, .int tk), (r0, 12, 4, .int wa_1), (r0, 12, 10, .int wc_1)]) [2, 0, 1] rfl), by first | omega | (refine ⟨?_, ?_, ?_, ?_, ?_, ?_, ?_, ?_, ?_, ?_, ?_⟩ <;> (first | omega | rfl | assumption | decide | exact Or.inl rfl | exact Or.inr rfl | (simp only; omega)))⟩⟩ rfl rfl hl.1 rfl (lv_room (Nat.le_of_ble_eq_true rfl)) dX10_isChain_46 ⟨Nat.zero_le _, Nat.zero_le _⟩) hh_1.1 (fun q _ h => h) (fun q h => h) (fun r_12 u_11 t_11 H_11 locs_11 ht_11 hvm_11 hr_12 hb_11 hz_11 hk_11 hS_11 => ?_)
            obtain ⟨qa_11, qc_11⟩ := u_11
            rw [ht_11] at hb_11
            obtain ⟨hb_111, hb_112, hb_113, hb_114, hb_115⟩ := hb_11
            have hh_11 : jSt (dC, dI) B base G0 G0 EX10_isChain s.heap 0 0 [(r0, 12, 4, .int qa_11), (r0, 12, 10, .int qc_11), (r0, 12, 3, .int tk)] [] [] H_11 locs_11 := ((hh_1.call hb_111 hb_112 hb_113 hb_114 hS_11 rfl (L1 := [(r0, 12, 3, .int tk)]) [2] rfl rfl (M1 := []) [] rfl rfl (I1 := []) [] rfl rfl).more hb_115)
            clear hh_1 ht_11 hvm_11 hz_11 hk_11 hS_11 hb_111 hb_112 hb_113 hb_114 hb_115
            try simp only at hr_12
            obtain ⟨hr_12b, hr_12p⟩ := hr_12
            obtain ⟨hr_12p_0, hr_12p_1, hr_12p_2, hr_12p_3, hr_12p_4⟩ := hr_12p
            have hr_12' := jb_01 hr_12b
            refine lv_istore (lv' := [(5, .int r_12), (4, .int wc_1), (0, .ref r0), (1, .int a1), (2, .int a2), (3, .int v3_1)]) hx hb dX10_isChain_49 hl (by decide) rfl (fun ls hl => ?_)
            refine lv_iload hx hb dX10_isChain_51 (lv_at hl 0 rfl) ?_
            refine lv_if_ne (tgt := 58) hx hb dX10_isChain_53 (by decide) (fun c_13 => ?_) (fun c_13 => ?_)
            · skip
              have c_13' : r_12.toInt ≠ 0 := jb_ne (rfl) ((by decide)) c_13
              first | (have hr_12p_4q := hr_12p_4.resolve_left (by omega); clear hr_12p_4) | (have hr_12p_4q := hr_12p_4.resolve_right (by omega); clear hr_12p_4) | skip
              refine lv_aload_n hx hb dX10_isChain_58 rfl (lv_at hl 2 rfl) ?_
              refine va_calli (A0 := jA base) (H0 := s.heap) (va_runV (As := []) (rest := []) ⟨hx, hb, hml, hown, hts⟩ (uX10_peek l dC dI ca base B hB hAp hB12 hB101 G0 H_11 r0 tk qa_11) (cwV 0 hts (jgV (jWr_79 _ (List.mem_of_getElem? (i := 18) rfl)) (jWr_79 _ (List.mem_of_getElem? (i := 19) rfl)) (jWr_79 _ (List.mem_of_getElem? (i := 20) rfl)) (jWr_4 _ (List.mem_of_getElem? (i := 14) rfl)) (jWr_79 _ (List.mem_of_getElem? (i := 21) rfl))) rfl rfl rfl (by decide +kernel) ⟨by rw [← hR]; show (0) + 1 ≤ 5 * ef + 6 + jf; omega, by rw [← hR]; show 8 + (1 + 11) + (0) ≤ 160 * ef + 230 + 30 * jf; omega⟩) ⟨fun a U g mk q => by obtain ⟨q0, q1, q2, qK, q10, q11, q12⟩ := q; exact ⟨q0, q1, q2, jG.calling g mk a qK, q10, q11, q12⟩, hh_11.recv (C := RX10) (T := TX10) (N := 11) hB12 rfl (by decide) hg_r0 hK, fun U hU hW => ⟨rfl, hU, hh_11.2.1, hG.step hW hU hh_11.1, hg_r0, (hh_11.2.2.1.sub (L1 := [(r0, 12, 3, .int tk), (r0, 12, 4, .int qa_11)]) [2, 0] rfl), by first | omega | (refine ⟨?_, ?_, ?_, ?_⟩ <;> (first | omega | rfl | assumption | decide | exact Or.inl rfl | exact Or.inr rfl | (simp only; omega)))⟩⟩ rfl rfl hl.1 rfl (lv_room (Nat.le_of_ble_eq_true rfl)) dX10_isChain_59 ⟨Nat.zero_le _, Nat.zero_le _⟩) hh_11.1 (fun q _ h => h) (fun q h => h) (fun r_15 u_14 t_14 H_14 locs_14 ht_14 hvm_14 hr_15 hb_14 hz_14 hk_14 hS_14 => ?_)
              rw [ht_14] at hb_14
              obtain ⟨hb_141, hb_142, hb_143, hb_144, hb_145⟩ := hb_14
              have hh_14 : jSt (dC, dI) B base G0 G0 EX10_isChain s.heap 0 0 [(r0, 12, 4, .int qa_11), (r0, 12, 10, .int qc_11), (r0, 12, 3, .int tk)] [] [] H_14 locs_14 := ((hh_11.call hb_141 hb_142 hb_143 hb_144 hS_14 rfl (L1 := [(r0, 12, 4, .int qa_11), (r0, 12, 10, .int qc_11), (r0, 12, 3, .int tk)]) [0, 1, 2] rfl rfl (M1 := []) [] rfl rfl (I1 := []) [] rfl rfl).more hb_145)
              clear hh_11 ht_14 hvm_14 hz_14 hk_14 hS_14 hb_141 hb_142 hb_143 hb_144 hb_145
              obtain ⟨ts_16, fts_16, hzts_16, htts_16, hpts_16⟩ := hG.2.2.2.2.2.1
              refine va_gets hx hb hzts_16 hh_14.1 hown (htw (.fieldLink RX10 122 "ProofServer$Syntax" "CHAIN_SIGNS" "[I") (jWr_80 _ (List.mem_of_getElem? (i := 10) rfl))) (fun _ h9 => h9) dX10_isChain_62 ?_
              refine lv_iload_n hx hb dX10_isChain_65 rfl (lv_at hl 3 rfl) ?_
              refine va_ti hx hb htts_16 hh_14.1 (jb_in (i := a1) (n := 3) (rfl) (by omega) (by omega)) rfl dX10_isChain_66 ?_
              refine lv_topi (fun z_17 ez_17 => ?_)
              have hz_17 : 0 < z_17.toInt := by rw [ez_17]; exact hpts_16 _ (jb_cl_lt (i := a1) (rfl) (by omega) (by omega))
              refine lv_icmp_eq (tgt := 72) hx hb dX10_isChain_67 (by decide) (fun c_18 => ?_) (fun c_18 => ?_)
              · skip
                have c_18' : r_15.toInt = z_17.toInt := jb_eq (rfl) (rfl) c_18
                first | (have hr_15q := hr_15.resolve_left (by omega); clear hr_15) | (have hr_15q := hr_15.resolve_right (by omega); clear hr_15) | try clear hr_15
                refine lv_aload_n hx hb dX10_isChain_72 rfl (lv_at hl 2 rfl) ?_
                refine lv_dup hx hb dX10_isChain_73 rfl ?_
                refine j7_read hx hb hown hK (C := RX10) (T := TX10) (N := 11) rfl hly_12_4 hlk_83 (hh_14.at 0 rfl) dX10_isChain_74 ?_
                refine lv_iconst (v := 1) hx hb dX10_isChain_77 (by decide) ?_
                refine lv_iadd hx hb dX10_isChain_78 ?_
                refine lv_topi (fun z_19 ez_19 => ?_)
                have hz_19 : z_19.toInt = qa_11.toInt + 1 := by rw [ez_19]; exact jb_iadd2 (rfl) ((by decide)) (by omega)
                refine j7_put hx hb hown hK hh_14 hB hAp hB12 (C := RX10) (T := TX10) (N := 11) rfl (by decide) hg_r0 (i := 4) (by decide) hly_12_4 rfl hlk_83 rfl (ty := .int) (v := .int z_19) (by decide +kernel) rfl rfl (⟨_, rfl, by omega, by omega⟩) rfl (L1 := [(r0, 12, 10, .int qc_11), (r0, 12, 3, .int tk)]) [1, 2] rfl rfl rfl dX10_isChain_79 (fun H_20 locs_20 hh_20 => ?_)
                clear hh_14
                refine lv_aload_n hx hb dX10_isChain_82 rfl (lv_at hl 2 rfl) ?_
                refine lv_iload hx hb dX10_isChain_83 (lv_at hl 1 rfl) ?_
                obtain ⟨ts_21, fts_21, hzts_21, htts_21, hpts_21⟩ := hG.2.2.2.2.2.2.1
                refine va_gets hx hb hzts_21 hh_20.1 hown (htw (.fieldLink RX10 128 "ProofServer$Syntax" "CHAIN_NODES" "[I") (jWr_80 _ (List.mem_of_getElem? (i := 11) rfl))) (fun _ h9 => h9) dX10_isChain_85 ?_
                refine lv_iload_n hx hb dX10_isChain_88 rfl (lv_at hl 3 rfl) ?_
                refine va_ti hx hb htts_21 hh_20.1 (jb_in (i := a1) (n := 3) (rfl) (by omega) (by omega)) rfl dX10_isChain_89 ?_
                refine lv_topi (fun z_22 ez_22 => ?_)
                have hz_22 : 0 < z_22.toInt := by rw [ez_22]; exact hpts_21 _ (jb_cl_lt (i := a1) (rfl) (by omega) (by omega))
                refine va_calli (A0 := jA base) (H0 := s.heap) (va_runV (As := [.int wc_1, .int z_22]) (rest := []) ⟨hx, hb, hml, hown, hts⟩ (uX10_insertNode l dC dI ca base B hB hAp hB12 hB101 G0 H_20 r0 wc_1 z_22 qc_11) (cwV 2 hts (jgV (jWr_80 _ (List.mem_of_getElem? (i := 15) rfl)) (jWr_80 _ (List.mem_of_getElem? (i := 16) rfl)) (jWr_80 _ (List.mem_of_getElem? (i := 17) rfl)) (jWr_4 _ (List.mem_of_getElem? (i := 14) rfl)) (jWr_80 _ (List.mem_of_getElem? (i := 18) rfl))) rfl rfl rfl (by decide +kernel) ⟨by rw [← hR]; show (0) + 1 ≤ 5 * ef + 6 + jf; omega, by rw [← hR]; show 8 + (4 + 11) + (0) ≤ 160 * ef + 230 + 30 * jf; omega⟩) ⟨fun a U g mk q => by obtain ⟨q0, q1, q2, qK, q10, q11, q12⟩ := q; exact ⟨q0, q1, q2, jG.calling g mk a qK, q10, q11, q12⟩, hh_20.recv (C := RX10) (T := TX10) (N := 11) hB12 rfl (by decide) hg_r0 hK, fun U hU hW => ⟨rfl, hU, hh_20.2.1, hG.step hW hU hh_20.1, hg_r0, (hh_20.2.2.1.sub (L1 := [(r0, 12, 10, .int qc_11)]) [1] rfl), by first | omega | (refine ⟨?_, ?_⟩ <;> (first | omega | rfl | assumption | decide | exact Or.inl rfl | exact Or.inr rfl | (simp only; omega)))⟩⟩ rfl rfl hl.1 rfl (lv_room (Nat.le_of_ble_eq_true rfl)) dX10_isChain_90 ⟨Nat.zero_le _, Nat.zero_le _⟩) hh_20.1 (fun q _ h => h) (fun q h => h) (fun r_24 u_23 t_23 H_23 locs_23 ht_23 hvm_23 hr_24 hb_23 hz_23 hk_23 hS_23 => ?_)
                obtain ⟨qc_23, rfl⟩ : ∃ z, z = u_23 := ⟨_, rfl⟩
                rw [ht_23] at hb_23
                obtain ⟨hb_231, hb_232, hb_233, hb_234, hb_235⟩ := hb_23
                have hh_23 : jSt (dC, dI) B base G0 G0 EX10_isChain s.heap 0 0 [(r0, 12, 10, .int qc_23), (r0, 12, 4, .int z_19), (r0, 12, 3, .int tk)] [] [] H_23 locs_23 := ((hh_20.call hb_231 hb_232 hb_233 hb_234 hS_23 rfl (L1 := [(r0, 12, 4, .int z_19), (r0, 12, 3, .int tk)]) [0, 2] rfl rfl (M1 := []) [] rfl rfl (I1 := []) [] rfl rfl).more hb_235)
                clear hh_20 ht_23 hvm_23 hz_23 hk_23 hS_23 hb_231 hb_232 hb_233 hb_234 hb_235
                obtain ⟨hr_24b, hr_24p⟩ := hr_24
                obtain ⟨hr_24p_0, hr_24p_1⟩ := hr_24p
                have hr_24' := jb_01 hr_24b
                refine lv_if_ne (tgt := 98) hx hb dX10_isChain_93 (by decide) (fun c_25 => ?_) (fun c_25 => ?_)
                · skip
                  have c_25' : r_24.toInt ≠ 0 := jb_ne (rfl) ((by decide)) c_25
                  first | (have hr_24p_0q := hr_24p_0.resolve_left (by omega); clear hr_24p_0) | (have hr_24p_0q := hr_24p_0.resolve_right (by omega); clear hr_24p_0) | skip
                  obtain ⟨z_26, ez_26⟩ : ∃ y : Int32, y = v3_1 + 1 := ⟨_, rfl⟩
                  refine lv_iinc (v := z_26) (lv' := [(3, .int z_26), (5, .int r_12), (4, .int wc_1), (0, .ref r0), (1, .int a1), (2, .int a2)]) hx hb dX10_isChain_98 hl (k := 5) rfl (by rw [ez_26]; rfl) (by decide) rfl (fun ls hl => ?_)
                  have hz_26 : z_26.toInt = v3_1.toInt + 1 := by rw [ez_26]; exact jb_iadd2 (rfl) (by decide) (by omega)
                  refine lv_goto (tgt := 2) hx hb dX10_isChain_101 (by decide) ?_
                  exact L2 z_26 z_19 qc_23 _ _ (hh_23.sub (L1 := [(r0, 12, 4, .int z_19), (r0, 12, 10, .int qc_23), (r0, 12, 3, .int tk)]) [1, 0, 2] rfl (M1 := []) [] rfl (I1 := []) [] rfl) (by first | omega | (refine ⟨?_, ?_, ?_, ?_, ?_, ?_⟩ <;> (first | omega | rfl | assumption | decide | exact Or.inl rfl | exact Or.inr rfl | (simp only; omega)))) (by omega) _ (lv_sub hl [3, 4, 5, 0] rfl)
                · skip
                  have c_25' : r_24.toInt = 0 := jb_ne_n (rfl) ((by decide)) c_25
                  first | (have hr_24p_0q := hr_24p_0.resolve_left (by omega); clear hr_24p_0) | (have hr_24p_0q := hr_24p_0.resolve_right (by omega); clear hr_24p_0) | skip
                  refine lv_iconst (v := 0) hx hb dX10_isChain_96 (by decide) ?_
                  rw [hQ]
                  exact W.zret (v := 0) hx hb hr (jb_nz (Or.inl rfl)) (fun t ht hW => ⟨⟨0, (z_19, qc_23), rfl, ⟨(Or.inl rfl), by first | omega | (refine ⟨?_, ?_, ?_, ?_, ?_⟩ <;> (first | omega | rfl | assumption | decide | exact Or.inl rfl | exact Or.inr rfl | (simp only; omega)))⟩, hh_23.rt (M1 := [(r0, 12, 4, .int z_19), (r0, 12, 10, .int qc_23)]) [1, 0] rfl ht⟩, by rw [ht]; try exact hh_23.1.1, fun q h9 hq => by rw [ht]; try exact hh_23.1.2.1 q h9 hq⟩) hh_23.1.2.2 dX10_isChain_97
              · skip
                have c_18' : r_15.toInt ≠ z_17.toInt := jb_eq_n (rfl) (rfl) c_18
                try clear hr_15
                refine lv_iconst (v := 1) hx hb dX10_isChain_70 (by decide) ?_
                rw [hQ]
                exact W.zret (v := 1) hx hb hr (jb_nz (Or.inr rfl)) (fun t ht hW => ⟨⟨1, (qa_11, qc_11), rfl, ⟨(Or.inr rfl), by first | omega | (refine ⟨?_, ?_, ?_, ?_, ?_⟩ <;> (first | omega | rfl | assumption | decide | exact Or.inl rfl | exact Or.inr rfl | (simp only; omega)))⟩, hh_14.rt (M1 := [(r0, 12, 4, .int qa_11), (r0, 12, 10, .int qc_11)]) [0, 1] rfl ht⟩, by rw [ht]; try exact hh_14.1.1, fun q h9 hq => by rw [ht]; try exact hh_14.1.2.1 q h9 hq⟩) hh_14.1.2.2 dX10_isChain_71
            · skip
              have c_13' : r_12.toInt = 0 := jb_ne_n (rfl) ((by decide)) c_13
              first | (have hr_12p_4q := hr_12p_4.resolve_left (by omega); clear hr_12p_4) | (have hr_12p_4q := hr_12p_4.resolve_right (by omega); clear hr_12p_4) | skip
              refine lv_iconst (v := 0) hx hb dX10_isChain_56 (by decide) ?_
              rw [hQ]
              exact W.zret (v := 0) hx hb hr (jb_nz (Or.inl rfl)) (fun t ht hW => ⟨⟨0, (qa_11, qc_11), rfl, ⟨(Or.inl rfl), by first | omega | (refine ⟨?_, ?_, ?_, ?_, ?_⟩ <;> (first | omega | rfl | assumption | decide | exact Or.inl rfl | exact Or.inr rfl | (simp only; omega)))⟩, hh_11.rt (M1 := [(r0, 12, 4, .int qa_11), (r0, 12, 10, .int qc_11)]) [0, 1] rfl ht⟩, by rw [ht]; try exact hh_11.1.1, fun q h9 hq => by rw [ht]; try exact hh_11.1.2.1 q h9 hq⟩) hh_11.1.2.2 dX10_isChain_57
          · skip
            have c_9' : a1.toInt = z_8.toInt := jb_ne_n (rfl) (rfl) c_9
            refine lv_aload_n hx hb dX10_isChain_33 rfl (lv_at hl 1 rfl) ?_
            refine lv_iload_n hx hb dX10_isChain_34 rfl (lv_at hl 3 rfl) ?_
            refine va_calli (A0 := jA base) (H0 := s.heap) (va_runV (As := [.int a2]) (rest := []) ⟨hx, hb, hml, hown, hts⟩ (hO G0 H_1 r0 a2 tk wa_1 wc_1) (cwV 1 hts (jgV (jWr_80 _ (List.mem_of_getElem? (i := 12) rfl)) (jWr_80 _ (List.mem_of_getElem? (i := 13) rfl)) (jWr_80 _ (List.mem_of_getElem? (i := 14) rfl)) (jWr_4 _ (List.mem_of_getElem? (i := 14) rfl)) (jWr_80 _ (List.mem_of_getElem? (i := 19) rfl))) rfl rfl rfl (by decide +kernel) ⟨by rw [← hR]; show (5 * ef + 5) + 1 ≤ 5 * ef + 6 + jf; omega, by rw [← hR]; show 8 + (6 + 11) + (160 * ef + 200) ≤ 160 * ef + 230 + 30 * jf; omega⟩) ⟨fun a U g mk q => by obtain ⟨q0, q1, q2, qK, q10, q11, q12⟩ := q; exact ⟨q0, q1, q2, jG.calling g mk a qK, q10, q11, q12⟩, hh_1.recv (C := RX10) (T := TX10) (N := 11) hB12 rfl (by decide) hg_r0 hK, fun U hU hW => ⟨rfl, hU, hh_1.2.1, hG.step hW hU hh_1.1, hg_r0, (hh_1.2.2.1.sub (L1 := [(r0, 12, 3, .int tk), (r0, 12, 4, .int wa_1), (r0, 12, 10, .int wc_1)]) [2, 0, 1] rfl), by first | omega | (refine ⟨?_, ?_, ?_, ?_, ?_, ?_, ?_, ?_, ?_⟩ <;> (first | omega | rfl | assumption | decide | exact Or.inl rfl | exact Or.inr rfl | (simp only; omega)))⟩⟩ rfl rfl hl.1 rfl (lv_room (Nat.le_of_ble_eq_true rfl)) dX10_isChain_35 ⟨Nat.zero_le _, Nat.zero_le _⟩) hh_1.1 (fun q _ h => h) (fun q h => h) (fun r_28 u_27 t_27 H_27 locs_27 ht_27 hvm_27 hr_28 hb_27 hz_27 hk_27 hS_27 => ?_)
            obtain ⟨qa_27, qc_27⟩ := u_27
            rw [ht_27] at hb_27
            obtain ⟨hb_271, hb_272, hb_273, hb_274, hb_275⟩ := hb_27
            have hh_27 : jSt (dC, dI) B base G0 G0 EX10_isChain s.heap 0 0 [(r0, 12, 4, .int qa_27), (r0, 12, 10, .int qc_27), (r0, 12, 3, .int tk)] [] [] H_27 locs_27 := ((hh_1.call hb_271 hb_272 hb_273 hb_274 hS_27 rfl (L1 := [(r0, 12, 3, .int tk)]) [2] rfl rfl (M1 := []) [] rfl rfl (I1 := []) [] rfl rfl).more hb_275)
            clear hh_1 ht_27 hvm_27 hz_27 hk_27 hS_27 hb_271 hb_272 hb_273 hb_274 hb_275
            try simp only at hr_28
            obtain ⟨hr_28b, hr_28p⟩ := hr_28
            obtain ⟨hr_28p_0, hr_28p_1, hr_28p_2, hr_28p_3, hr_28p_4⟩ := hr_28p
            have hr_28' := jb_01 hr_28b
            refine lv_goto (tgt := 49) hx hb dX10_isChain_38 (by decide) ?_
            refine lv_istore (lv' := [(5, .int r_28), (4, .int wc_1), (0, .ref r0), (1, .int a1), (2, .int a2), (3, .int v3_1)]) hx hb dX10_isChain_49 hl (by decide) rfl (fun ls hl => ?_)
            refine lv_iload hx hb dX10_isChain_51 (lv_at hl 0 rfl) ?_
            refine lv_if_ne (tgt := 58) hx hb dX10_isChain_53 (by decide) (fun c_29 => ?_) (fun c_29 => ?_)
            · skip
              have c_29' : r_28.toInt ≠ 0 := jb_ne (rfl) ((by decide)) c_29
              first | (have hr_28p_4q := hr_28p_4.resolve_left (by omega); clear hr_28p_4) | (have hr_28p_4q := hr_28p_4.resolve_right (by omega); clear hr_28p_4) | skip
              refine lv_aload_n hx hb dX10_isChain_58 rfl (lv_at hl 2 rfl) ?_
              refine va_calli (A0 := jA base) (H0 := s.heap) (va_runV (As := []) (rest := []) ⟨hx, hb, hml, hown, hts⟩ (uX10_peek l dC dI ca base B hB hAp hB12 hB101 G0 H_27 r0 tk qa_27) (cwV 0 hts (jgV (jWr_79 _ (List.mem_of_getElem? (i := 18) rfl)) (jWr_79 _ (List.mem_of_getElem? (i := 19) rfl)) (jWr_79 _ (List.mem_of_getElem? (i := 20) rfl)) (jWr_4 _ (List.mem_of_getElem? (i := 14) rfl)) (jWr_79 _ (List.mem_of_getElem? (i := 21) rfl))) rfl rfl rfl (by decide +kernel) ⟨by rw [← hR]; show (0) + 1 ≤ 5 * ef + 6 + jf; omega, by rw [← hR]; show 8 + (1 + 11) + (0) ≤ 160 * ef + 230 + 30 * jf; omega⟩) ⟨fun a U g mk q => by obtain ⟨q0, q1, q2, qK, q10, q11, q12⟩ := q; exact ⟨q0, q1, q2, jG.calling g mk a qK, q10, q11, q12⟩, hh_27.recv (C := RX10) (T := TX10) (N := 11) hB12 rfl (by decide) hg_r0 hK, fun U hU hW => ⟨rfl, hU, hh_27.2.1, hG.step hW hU hh_27.1, hg_r0, (hh_27.2.2.1.sub (L1 := [(r0, 12, 3, .int tk), (r0, 12, 4, .int qa_27)]) [2, 0] rfl), by first | omega | (refine ⟨?_, ?_, ?_, ?_⟩ <;> (first | omega | rfl | assumption | decide | exact Or.inl rfl | exact Or.inr rfl | (simp only; omega)))⟩⟩ rfl rfl hl.1 rfl (lv_room (Nat.le_of_ble_eq_true rfl)) dX10_isChain_59 ⟨Nat.zero_le _, Nat.zero_le _⟩) hh_27.1 (fun q _ h => h) (fun q h => h) (fun r_31 u_30 t_30 H_30 locs_30 ht_30 hvm_30 hr_31 hb_30 hz_30 hk_30 hS_30 => ?_)
              rw [ht_30] at hb_30
              obtain ⟨hb_301, hb_302, hb_303, hb_304, hb_305⟩ := hb_30
              have hh_30 : jSt (dC, dI) B base G0 G0 EX10_isChain s.heap 0 0 [(r0, 12, 4, .int qa_27), (r0, 12, 10, .int qc_27), (r0, 12, 3, .int tk)] [] [] H_30 locs_30 := ((hh_27.call hb_301 hb_302 hb_303 hb_304 hS_30 rfl (L1 := [(r0, 12, 4, .int qa_27), (r0, 12, 10, .int qc_27), (r0, 12, 3, .int tk)]) [0, 1, 2] rfl rfl (M1 := []) [] rfl rfl (I1 := []) [] rfl rfl).more hb_305)
              clear hh_27 ht_30 hvm_30 hz_30 hk_30 hS_30 hb_301 hb_302 hb_303 hb_304 hb_305
              obtain ⟨ts_32, fts_32, hzts_32, htts_32, hpts_32⟩ := hG.2.2.2.2.2.1
              refine va_gets hx hb hzts_32 hh_30.1 hown (htw (.fieldLink RX10 122 "ProofServer$Syntax" "CHAIN_SIGNS" "[I") (jWr_80 _ (List.mem_of_getElem? (i := 10) rfl))) (fun _ h9 => h9) dX10_isChain_62 ?_
              refine lv_iload_n hx hb dX10_isChain_65 rfl (lv_at hl 3 rfl) ?_
              refine va_ti hx hb htts_32 hh_30.1 (jb_in (i := a1) (n := 3) (rfl) (by omega) (by omega)) rfl dX10_isChain_66 ?_
              refine lv_topi (fun z_33 ez_33 => ?_)
              have hz_33 : 0 < z_33.toInt := by rw [ez_33]; exact hpts_32 _ (jb_cl_lt (i := a1) (rfl) (by omega) (by omega))
              refine lv_icmp_eq (tgt := 72) hx hb dX10_isChain_67 (by decide) (fun c_34 => ?_) (fun c_34 => ?_)
              · skip
                have c_34' : r_31.toInt = z_33.toInt := jb_eq (rfl) (rfl) c_34
                first | (have hr_31q := hr_31.resolve_left (by omega); clear hr_31) | (have hr_31q := hr_31.resolve_right (by omega); clear hr_31) | try clear hr_31
                refine lv_aload_n hx hb dX10_isChain_72 rfl (lv_at hl 2 rfl) ?_
                refine lv_dup hx hb dX10_isChain_73 rfl ?_
                refine j7_read hx hb hown hK (C := RX10) (T := TX10) (N := 11) rfl hly_12_4 hlk_83 (hh_30.at 0 rfl) dX10_isChain_74 ?_
                refine lv_iconst (v := 1) hx hb dX10_isChain_77 (by decide) ?_
                refine lv_iadd hx hb dX10_isChain_78 ?_
                refine lv_topi (fun z_35 ez_35 => ?_)
                have hz_35 : z_35.toInt = qa_27.toInt + 1 := by rw [ez_35]; exact jb_iadd2 (rfl) ((by decide)) (by omega)
                refine j7_put hx hb hown hK hh_30 hB hAp hB12 (C := RX10) (T := TX10) (N := 11) rfl (by decide) hg_r0 (i := 4) (by decide) hly_12_4 rfl hlk_83 rfl (ty := .int) (v := .int z_35) (by decide +kernel) rfl rfl (⟨_, rfl, by omega, by omega⟩) rfl (L1 := [(r0, 12, 10, .int qc_27), (r0, 12, 3, .int tk)]) [1, 2] rfl rfl rfl dX10_isChain_79 (fun H_36 locs_36 hh_36 => ?_)
                clear hh_30
                refine lv_aload_n hx hb dX10_isChain_82 rfl (lv_at hl 2 rfl) ?_
                refine lv_iload hx hb dX10_isChain_83 (lv_at hl 1 rfl) ?_
                obtain ⟨ts_37, fts_37, hzts_37, htts_37, hpts_37⟩ := hG.2.2.2.2.2.2.1
                refine va_gets hx hb hzts_37 hh_36.1 hown (htw (.fieldLink RX10 128 "ProofServer$Syntax" "CHAIN_NODES" "[I") (jWr_80 _ (List.mem_of_getElem? (i := 11) rfl))) (fun _ h9 => h9) dX10_isChain_85 ?_
                refine lv_iload_n hx hb dX10_isChain_88 rfl (lv_at hl 3 rfl) ?_
                refine va_ti hx hb htts_37 hh_36.1 (jb_in (i := a1) (n := 3) (rfl) (by omega) (by omega)) rfl dX10_isChain_89 ?_
                refine lv_topi (fun z_38 ez_38 => ?_)
                have hz_38 : 0 < z_38.toInt := by rw [ez_38]; exact hpts_37 _ (jb_cl_lt (i := a1) (rfl) (by omega) (by omega))
                refine va_calli (A0 := jA base) (H0 := s.heap) (va_runV (As := [.int wc_1, .int z_38]) (rest := []) ⟨hx, hb, hml, hown, hts⟩ (uX10_insertNode l dC dI ca base B hB hAp hB12 hB101 G0 H_36 r0 wc_1 z_38 qc_27) (cwV 2 hts (jgV (jWr_80 _ (List.mem_of_getElem? (i := 15) rfl)) (jWr_80 _ (List.mem_of_getElem? (i := 16) rfl)) (jWr_80 _ (List.mem_of_getElem? (i := 17) rfl)) (jWr_4 _ (List.mem_of_getElem? (i := 14) rfl)) (jWr_80 _ (List.mem_of_getElem? (i := 18) rfl))) rfl rfl rfl (by decide +kernel) ⟨by rw [← hR]; show (0) + 1 ≤ 5 * ef + 6 + jf; omega, by rw [← hR]; show 8 + (4 + 11) + (0) ≤ 160 * ef + 230 + 30 * jf; omega⟩) ⟨fun a U g mk q => by obtain ⟨q0, q1, q2, qK, q10, q11, q12⟩ := q; exact ⟨q0, q1, q2, jG.calling g mk a qK, q10, q11, q12⟩, hh_36.recv (C := RX10) (T := TX10) (N := 11) hB12 rfl (by decide) hg_r0 hK, fun U hU hW => ⟨rfl, hU, hh_36.2.1, hG.step hW hU hh_36.1, hg_r0, (hh_36.2.2.1.sub (L1 := [(r0, 12, 10, .int qc_27)]) [1] rfl), by first | omega | (refine ⟨?_, ?_⟩ <;> (first | omega | rfl | assumption | decide | exact Or.inl rfl | exact Or.inr rfl | (simp only; omega)))⟩⟩ rfl rfl hl.1 rfl (lv_room (Nat.le_of_ble_eq_true rfl)) dX10_isChain_90 ⟨Nat.zero_le _, Nat.zero_le _⟩) hh_36.1 (fun q _ h => h) (fun q h => h) (fun r_40 u_39 t_39 H_39 locs_39 ht_39 hvm_39 hr_40 hb_39 hz_39 hk_39 hS_39 => ?_)
                obtain ⟨qc_39, rfl⟩ : ∃ z, z = u_39 := ⟨_, rfl⟩
                rw [ht_39] at hb_39
                obtain ⟨hb_391, hb_392, hb_393, hb_394, hb_395⟩ := hb_39
                have hh_39 : jSt (dC, dI) B base G0 G0 EX10_isChain s.heap 0 0 [(r0, 12, 10, .int qc_39), (r0, 12, 4, .int z_35), (r0, 12, 3, .int tk)] [] [] H_39 locs_39 := ((hh_36.call hb_391 hb_392 hb_393 hb_394 hS_39 rfl (L1 := [(r0, 12, 4, .int z_35), (r0, 12, 3, .int tk)]) [0, 2] rfl rfl (M1 := []) [] rfl rfl (I1 := []) [] rfl rfl).more hb_395)
                clear hh_36 ht_39 hvm_39 hz_39 hk_39 hS_39 hb_391 hb_392 hb_393 hb_394 hb_395
                obtain ⟨hr_40b, hr_40p⟩ := hr_40
                obtain ⟨hr_40p_0, hr_40p_1⟩ := hr_40p
                have hr_40' := jb_01 hr_40b
                refine lv_if_ne (tgt := 98) hx hb dX10_isChain_93 (by decide) (fun c_41 => ?_) (fun c_41 => ?_)
                · skip
                  have c_41' : r_40.toInt ≠ 0 := jb_ne (rfl) ((by decide)) c_41
                  first | (have hr_40p_0q := hr_40p_0.resolve_left (by omega); clear hr_40p_0) | (have hr_40p_0q := hr_40p_0.resolve_right (by omega); clear hr_40p_0) | skip
                  obtain ⟨z_42, ez_42⟩ : ∃ y : Int32, y = v3_1 + 1 := ⟨_, rfl⟩
                  refine lv_iinc (v := z_42) (lv' := [(3, .int z_42), (5, .int r_28), (4, .int wc_1), (0, .ref r0), (1, .int a1), (2, .int a2)]) hx hb dX10_isChain_98 hl (k := 5) rfl (by rw [ez_42]; rfl) (by decide) rfl (fun ls hl => ?_)
                  have hz_42 : z_42.toInt = v3_1.toInt + 1 := by rw [ez_42]; exact jb_iadd2 (rfl) (by decide) (by omega)
                  refine lv_goto (tgt := 2) hx hb dX10_isChain_101 (by decide) ?_
                  exact L2 z_42 z_35 qc_39 _ _ (hh_39.sub (L1 := [(r0, 12, 4, .int z_35), (r0, 12, 10, .int qc_39), (r0, 12, 3, .int tk)]) [1, 0, 2] rfl (M1 := []) [] rfl (I1 := []) [] rfl) (by first | omega | (refine ⟨?_, ?_, ?_, ?_, ?_, ?_⟩ <;> (first | omega | rfl | assumption | decide | exact Or.inl rfl | exact Or.inr rfl | (simp only; omega)))) (by omega) _ (lv_sub hl [3, 4, 5, 0] rfl)
                · skip
                  have c_41' : r_40.toInt = 0 := jb_ne_n (rfl) ((by decide)) c_41
                  first | (have hr_40p_0q := hr_40p_0.resolve_left (by omega); clear hr_40p_0) | (have hr_40p_0q := hr_40p_0.resolve_right (by omega); clear hr_40p_0) | skip
                  refine lv_iconst (v := 0) hx hb dX10_isChain_96 (by decide) ?_
                  rw [hQ]
                  exact W.zret (v := 0) hx hb hr (jb_nz (Or.inl rfl)) (fun t ht hW => ⟨⟨0, (z_35, qc_39), rfl, ⟨(Or.inl rfl), by first | omega | (refine ⟨?_, ?_, ?_, ?_, ?_⟩ <;> (first | omega | rfl | assumption | decide | exact Or.inl rfl | exact Or.inr rfl | (simp only; omega)))⟩, hh_39.rt (M1 := [(r0, 12, 4, .int z_35), (r0, 12, 10, .int qc_39)]) [1, 0] rfl ht⟩, by rw [ht]; try exact hh_39.1.1, fun q h9 hq => by rw [ht]; try exact hh_39.1.2.1 q h9 hq⟩) hh_39.1.2.2 dX10_isChain_97
              · skip
                have c_34' : r_31.toInt ≠ z_33.toInt := jb_eq_n (rfl) (rfl) c_34
                try clear hr_31
                refine lv_iconst (v := 1) hx hb dX10_isChain_70 (by decide) ?_
                rw [hQ]
                exact W.zret (v := 1) hx hb hr (jb_nz (Or.inr rfl)) (fun t ht hW => ⟨⟨1, (qa_27, qc_27), rfl, ⟨(Or.inr rfl), by first | omega | (refine ⟨?_, ?_, ?_, ?_, ?_⟩ <;> (first | omega | rfl | assumption | decide | exact Or.inl rfl | exact Or.inr rfl | (simp only; omega)))⟩, hh_30.rt (M1 := [(r0, 12, 4, .int qa_27), (r0, 12, 10, .int qc_27)]) [0, 1] rfl ht⟩, by rw [ht]; try exact hh_30.1.1, fun q h9 hq => by rw [ht]; try exact hh_30.1.2.1 q h9 hq⟩) hh_30.1.2.2 dX10_isChain_71
            · skip
              have c_29' : r_28.toInt = 0 := jb_ne_n (rfl) ((by decide)) c_29
              first | (have hr_28p_4q := hr_28p_4.resolve_left (by omega); clear hr_28p_4) | (have hr_28p_4q := hr_28p_4.resolve_right (by omega); clear hr_28p_4) | skip
              refine lv_iconst (v := 0) hx hb dX10_isChain_56 (by decide) ?_
              rw [hQ]
              exact W.zret (v := 0) hx hb hr (jb_nz (Or.inl rfl)) (fun t ht hW => ⟨⟨0, (qa_27, qc_27), rfl, ⟨(Or.inl rfl), by first | omega | (refine ⟨?_, ?_, ?_, ?_, ?_⟩ <;> (first | omega | rfl | assumption | decide | exact Or.inl rfl | exact Or.inr rfl | (simp only; omega)))⟩, hh_27.rt (M1 := [(r0, 12, 4, .int qa_27), (r0, 12, 10, .int qc_27)]) [0, 1] rfl ht⟩, by rw [ht]; try exact hh_27.1.1, fun q h9 hq => by rw [ht]; try exact hh_27.1.2.1 q h9 hq⟩) hh_27.1.2.2 dX10_isChain_57
  exact L2 (1500 - (0 : Int32).toInt : Int).toNat.succ 0 pa nc _ _ (hh.sub (L1 := [(r0, 12, 4, .int pa), (r0, 12, 10, .int nc), (r0, 12, 3, .int tk)]) [1, 2, 0] rfl (M1 := []) [] rfl (I1 := []) [] rfl) (by first | omega | (refine ⟨?_, ?_, ?_, ?_, ?_, ?_⟩ <;> (first | omega | rfl | assumption | decide | exact Or.inl rfl | exact Or.inr rfl | (simp only; omega)))) (by omega) _ (lv_sub hl [1, 2, 3, 0] rfl)
theorem aX10_isOneChain (l : Launch) (dC : Nat → ClassId) (dI : Nat → Nat → Nat) (ca : Nat → ClassId) (base : Nat) (B : jF) (hB : jBok B) (hAp : jAp (dC, dI)) (hB12 : ∀ n G a H, B 12 n G a H ↔ jOb (dC, dI) 12 11 (F12 n G) a H) (hB101 : ∀ n G a H, B 101 n G a H ↔ jAr (dC, dI) (ca 1) (fun j z => True) n a H) : ∀ ef, qX10_isOne l dC dI ca base B ef ∧ ∀ jf, qX10_isChain l dC dI ca base B ef jf := fun ef => Nat.strongRecOn ef (fun e ih => by
  have hO : qX10_isOne l dC dI ca base B e := fun G0 H0 r0 a1 tk pa nc => uX10_isOne l dC dI ca base B hB hAp hB12 hB101 e (fun e1 h => (ih e1 h).1) (fun e1 h => (ih e1 h).2 2) G0 H0 r0 a1 tk pa nc
  refine ⟨hO, fun jf => Nat.strongRecOn jf (fun j ihj => fun G0 H0 r0 a1 a2 tk pa nc => uX10_isChain l dC dI ca base B hB hAp hB12 hB101 e j hO ihj G0 H0 r0 a1 a2 tk pa nc)⟩)
